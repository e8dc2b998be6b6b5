/-! ===== the law's own methods, which catch ===== -/
def NCL : List (String × String) := [(sIAE, sISE), (sIAE, sIOB), (sISE, sIAE), (sISE, sIOB), (sIOB, sIAE), (sIOB, sISE)]
def NC (s : State) : Prop := ∀ q ∈ NCL, va_Nc q.1 q.2 s
theorem NC.moved {u U : State} (h : u.vm.Alike U.vm) (hc : NC u) : NC U := fun q hq => va_Nc.moved h (hc q hq)
def PreN (D : Gt) (S : St) (sz : Nat) (U : State) : Prop := PreB D S sz U ∧ NC U
theorem PreN.blind {D : Gt} {S : St} {sz : Nat} {As : List Value} : FrameBlind (va_Pc As (PreN D S sz)) := fun a U g mk q => by
  obtain ⟨q0, ⟨q1, qP, qD, qK, qE, qZ⟩, qN⟩ := q
  exact ⟨q0, ⟨q1, qP, qD, va_K.moved (u := U) (U := U.calling g mk a) (Vm.Alike.refl U.vm) qK, EN.same (u := U) (U := U.calling g mk a) rfl qE, qZ.1.moved (u := U) (U := U.calling g mk a) (Vm.Alike.refl U.vm), qZ.2.moved (u := U) (U := U.calling g mk a) (Vm.Alike.refl U.vm)⟩, NC.moved (u := U) (U := U.calling g mk a) (Vm.Alike.refl U.vm) qN⟩
def KW (D : Gt) (l : Launch) (y : MethodName) (ws : List Cond) (rm : Room) (As : List Value) (S : St) (post : Int32 → St → Prop) (mc ms : Nat) : Prop := ∀ sz : Nat, vx_Met l y ws rm (va_Pc As (PreN D S sz)) (va_Qi post (PoB D (wA S sz)) (wA S sz)) (XCs D S (wA S sz) nX) mc ms (wA S sz)
theorem KW_of {D : Gt} {l : Launch} {y : MethodName} {own : String} {cc : ByteArray} {n : Nat} {ret : Option FieldType} {hh : List (Nat × Nat × Nat × Nat)} {rm : Room} {As : List Value} {S : St} {post : Int32 → St → Prop} {mc ms : Nat} {L0 : List (Option Value)} (hy : plainName y.cls = true) (hown : y.cls = own) (hc : ∀ v ∈ As, v.category = 1) (hn : As.length ≤ n) (hL : As.map some ++ List.replicate (n - As.length) none = L0) (body : ∀ (p : Program) (e : Env) (s : State) (m : MethodId) (args : Array Value) (below : List Frame) (meth : Method) (c : Code) (A : Nat → Prop), CX D A own cc n ret (tableOf hh) p s m args meth c → NC s → V D A n S p l e rm s m args below meth c 0 0 (vx_MQ below (va_Qi post (PoB D A) A) (XCs D S A nX) args s mc ms A) 0 L0 []) : KW D l y (uwsW y cc n ret hh) rm As S post mc ms := fun sz => by
  subst hown
  subst hL
  refine vx_ofWH (cc := cc) (maxL := n) (ret := ret) (hh := hh) hy rfl ?_
  intro p e s m args below meth c s₁ B hml hv
  obtain ⟨rfl, ⟨hsz, hP, hD, hK, hE, hZ⟩, hNC⟩ := hv
  have hts := atoms_spec (ws := uwsW y cc n ret hh) B.pre
  have htb : c.exceptionTable.toList = tableOf hh := vx_table (x := y) B (hts _ List.mem_cons_self)
  have C : CX D (wA S sz) y.cls cc n ret (tableOf hh) p s m As.toArray meth c := ⟨⟨B.exec, B.bytes, hml, findClass_of_methodNamed B.named, fun w hw => hts w (List.mem_cons_of_mem _ hw)⟩, hK, hE, hZ, B.returns, B.notSynchronized, fun q hq => Or.inr (by rw [← hsz]; exact hq), htb⟩
  have hV := body p e s m As.toArray below meth c (wA S sz) C hNC
  rw [lg_entry_eq]
  refine hV s.heap [] _ hP (hD.weaken (fun k q hk _ => ?_)) va_S.rf (lL_entry hc hn)
  obtain ⟨t, ht, e⟩ := List.mem_map.mp (List.mem_of_getElem? hk)
  exact Or.inl ⟨t, ht, by rw [← e]⟩
section LAWROWS
variable {D : Gt} {A : Nat → Prop} {own : String} {cc : ByteArray} {n : Nat} {ret : Option FieldType} {tb : List ExceptionTableEntry} {p : Program} {l : Launch} {e : Env} {R : Room} {s : State} {m : MethodId} {args : Array Value} {below : List Frame} {meth : Method} {c : Code} {cells slots : Nat} {Q : State → Prop} {S : St} {pc : Nat} {L : List (Option Value)} {st : List Value}
theorem preN_of (C : CX D A own cc n ret tb p s m args meth c) (hN : NC s) {H : Heap} {locs : List Loc} {As : List Value} (hP : va_P D.1 vwCl (wS S) H) (hD : va_D A (wS S)) (hS : va_S A s.heap H locs) : PreS s H (va_Pc As (PreN D S H.size)) As := by
  refine ⟨PreN.blind, fun U hU hW => ⟨rfl, ⟨by rw [hU], by rw [hU]; exact hP, hD.weaken (fun _ _ _ _ => trivial), va_K.moved hW.alike C.2.1, EN.warm hW C.2.2.1, ?_⟩, NC.moved hW.alike hN⟩⟩
  rw [hU]
  exact C.2.2.2.1.go hS (wA_sub C.2.2.2.2.2.2.1 hD hS) hW.alike
theorem r_callW (C : CX D A own cc n ret tb p s m args meth c) (hN : NC s) {y : MethodName} {cc' : ByteArray} {n' na index : Nat} {ret' : Option FieldType} {hh : List (Nat × Nat × Nat × Nat)} {rm : Room} {mc ms : Nat} {post : Int32 → St → Prop} {As st0 : List Value} (hM : KW D l y (uwsW y cc' n' ret' hh) rm As S post mc ms) (hl2 : Cond.methodLink own index y ∈ UW) (hi : Cond.static y ∈ UW) (hini : Cond.initialized y.cls ∈ UW) (hcd : Cond.codeWith y cc' n' ret' hh ∈ UW) (hd : y.cls ≠ "java/lang/invoke/MethodHandle" ∧ y.cls ≠ "java/lang/invoke/VarHandle" ∧ (parseMethodDescriptor y.desc).map (fun d => d.parameters.length) = some na) (hst : st0 = As.reverse ++ st) (hna : As.length = na) (hcat : (st.map fun v => v.category).sum ≤ 8) (hrm : rm.cells = mc ∧ rm.slots = ms) (hR : rm.frames + 1 ≤ R.frames ∧ 8 + (n' + 11) + rm.locals ≤ R.locals) (hf : cells + mc ≤ R.cells ∧ slots + ms ≤ R.slots) (d : decode cc pc = .ok (.invokestatic index, 3)) (kk : ∀ (r : Int32) (S1 : St), post r S1 → V D A n S1 p l e R s m args below meth c (cells + mc) (slots + ms) Q (pc + 3) L (.int r :: st)) : V D A n S p l e R s m args below meth c cells slots Q pc L st0 := fun H locs ls hP hD hS hl =>
  vx_calli (vx_runSX C.1 (hM H.size) ⟨⟨hrm.1, hrm.2, hR.1, hR.2, pay_in C.1.2.2.2.2 (uwsW_in hcd), List.mem_cons_self⟩, C.1.2.2.2.2 _ hcd, C.1.2.2.2.2 _ hini, ⟨hd.1, hd.2.1⟩, (fun sig h => by have h2 := hd.2.2; rw [h] at h2; exact (Option.some.inj h2).symm), C.1.2.2.2.2 _ hl2, C.1.2.2.2.2 _ hi⟩ (preN_of C hN hP hD hS) rfl hna hl.1.1 hst (lv_room hcat) d hf) hS (fun q _ hq => wA_sub C.2.2.2.2.2.2.1 hD hS q hq) (fun q hq => wA_sub C.2.2.2.2.2.2.1 hD hS q hq) (fun q _ hq => wA_sub C.2.2.2.2.2.2.1 hD hS q hq) (fun E ce q9 u t H1 locs1 ht _ _ hx hz hk hS1 h1 h2 h3 => hx.1.elim) (fun r u t H1 locs1 ht _ hp hb hz hk hS1 => kk r u hp H1 locs1 ls (by have hq := hb.1; rw [ht] at hq; exact hq) (hb.2.weaken (fun _ q _ hq => wA_sub C.2.2.2.2.2.2.1 hD hS _ hq)) hS1 hl)
theorem r_catch {hh : List (Nat × Nat × Nat × Nat)} (C : CX D A RL cc n ret (tableOf hh) p s m args meth c) (hN : NC s) {name : String} (pre suf : List ExceptionTableEntry) (x : ExceptionTableEntry) (hsplit : tableOf hh = pre ++ x :: suf) (hpass : ∀ z ∈ pre, covers z pc = false ∨ (z.catchType ≠ 0 ∧ ∃ nm : String, Cond.classLink RL z.catchType nm ∈ UW ∧ (name, nm) ∈ NCL)) (hx : covers x pc = true) (h0 : x.catchType ≠ 0) (hlink : Cond.classLink RL x.catchType name ∈ UW) (hn : name ∈ XN) {H1 : Heap} {locs1 : List Loc} {ls : Array Slot} {ce : Cell} {q9 : Addr} (hP : va_P D.1 vwCl (wS S) H1) (hD : va_D A (wS S)) (hS : va_S A s.heap H1 locs1) (hl : lL ls n L) (h1 : H1[q9]? = some ce) (h2 : ce.vm = .none) (h3 : s.vm.findClass name = some ce.cls) (kk : V D A n S p l e R s m args below meth c cells slots Q x.handlerPc L [.ref q9]) : vx_W p l e R s m args below meth c H1 locs1 cells slots Q (F0 m pc ls st) q9 := by
  refine vx_catch C.1.2.2.2.1 pre x suf (C.2.2.2.2.2.2.2.trans hsplit) (fun z hz => ?_) hx h0 (C.1.2.2.2.2 _ hlink) (va_Nw.use rfl (C.2.2.1.1.1 _ hn)) h1 h2 h3 (kk H1 locs1 ls hP hD hS hl)
  rcases hpass z hz with a | ⟨a, nm, b, d⟩
  · exact Or.inl a
  · exact Or.inr ⟨a, nm, C.1.2.2.2.2 _ b, hN _ d⟩
end LAWROWS
theorem kl_RL_55 : Cond.classLink RL 55 sIOB ∈ UW := UW_m (i := 138) (by decide +kernel) (by decide +kernel)
theorem kl_RL_59 : Cond.classLink RL 59 sISE ∈ UW := UW_m (i := 140) (by decide +kernel) (by decide +kernel)
theorem kl_RL_57 : Cond.classLink RL 57 sIAE ∈ UW := UW_m (i := 139) (by decide +kernel) (by decide +kernel)
theorem xn_IOB : sIOB ∈ XN := by decide
theorem xn_ISE : sISE ∈ XN := by decide
theorem xn_IAE : sIAE ∈ XN := by decide
theorem ini_L : Cond.initialized RL ∈ UW := UW_m (i := 20) (by decide +kernel) (by decide +kernel)
theorem cdW_L_does : Cond.codeWith yL_does cL_does 5 (some .int) [(0, 186, 187, 55), (0, 186, 192, 57), (0, 186, 197, 59)] ∈ UW := UW_m (i := 137) (by decide +kernel) (by decide +kernel)
theorem st_L_does : Cond.static yL_does ∈ UW := UW_m (i := 136) (by decide +kernel) (by decide +kernel)
theorem ml_RL_98 : Cond.methodLink RL 98 yL_does ∈ UW := UW_m (i := 135) (by decide +kernel) (by decide +kernel)
theorem hd_RL_98 : yL_does.cls ≠ "java/lang/invoke/MethodHandle" ∧ yL_does.cls ≠ "java/lang/invoke/VarHandle" ∧ (parseMethodDescriptor yL_does.desc).map (fun d => d.parameters.length) = some 4 := ⟨by decide +kernel, by decide +kernel, by decide +kernel⟩
theorem cdW_L_stone : Cond.codeWith yL_stone cL_stone 7 (some .int) [(0, 11, 12, 55), (0, 11, 17, 57), (0, 11, 22, 59)] ∈ UW := UW_m (i := 573) (by decide +kernel) (by decide +kernel)
theorem st_L_stone : Cond.static yL_stone ∈ UW := UW_m (i := 572) (by decide +kernel) (by decide +kernel)
theorem ml_RL_106 : Cond.methodLink RL 106 yL_stone ∈ UW := UW_m (i := 571) (by decide +kernel) (by decide +kernel)
theorem hd_RL_106 : yL_stone.cls ≠ "java/lang/invoke/MethodHandle" ∧ yL_stone.cls ≠ "java/lang/invoke/VarHandle" ∧ (parseMethodDescriptor yL_stone.desc).map (fun d => d.parameters.length) = some 6 := ⟨by decide +kernel, by decide +kernel, by decide +kernel⟩
theorem cdW_L_price : Cond.codeWith yL_price cL_price 5 (some .int) [(0, 7, 8, 55), (0, 7, 13, 57)] ∈ UW := UW_m (i := 644) (by decide +kernel) (by decide +kernel)
theorem st_L_price : Cond.static yL_price ∈ UW := UW_m (i := 643) (by decide +kernel) (by decide +kernel)
theorem ml_RL_112 : Cond.methodLink RL 112 yL_price ∈ UW := UW_m (i := 642) (by decide +kernel) (by decide +kernel)
theorem hd_RL_112 : yL_price.cls ≠ "java/lang/invoke/MethodHandle" ∧ yL_price.cls ≠ "java/lang/invoke/VarHandle" ∧ (parseMethodDescriptor yL_price.desc).map (fun d => d.parameters.length) = some 4 := ⟨by decide +kernel, by decide +kernel, by decide +kernel⟩
theorem cdW_L_take : Cond.codeWith yL_take cL_take 4 (some .int) [(0, 6, 7, 55), (0, 6, 11, 59)] ∈ UW := UW_m (i := 657) (by decide +kernel) (by decide +kernel)
theorem st_L_take : Cond.static yL_take ∈ UW := UW_m (i := 656) (by decide +kernel) (by decide +kernel)
theorem ml_RL_114 : Cond.methodLink RL 114 yL_take ∈ UW := UW_m (i := 655) (by decide +kernel) (by decide +kernel)
theorem hd_RL_114 : yL_take.cls ≠ "java/lang/invoke/MethodHandle" ∧ yL_take.cls ≠ "java/lang/invoke/VarHandle" ∧ (parseMethodDescriptor yL_take.desc).map (fun d => d.parameters.length) = some 3 := ⟨by decide +kernel, by decide +kernel, by decide +kernel⟩
theorem cdW_L_tenders : Cond.codeWith yL_tenders cL_tenders 4 (some .int) [(0, 7, 8, 55), (0, 7, 12, 57), (0, 7, 16, 59)] ∈ UW := UW_m (i := 669) (by decide +kernel) (by decide +kernel)
theorem st_L_tenders : Cond.static yL_tenders ∈ UW := UW_m (i := 668) (by decide +kernel) (by decide +kernel)
theorem ml_RL_117 : Cond.methodLink RL 117 yL_tenders ∈ UW := UW_m (i := 667) (by decide +kernel) (by decide +kernel)
theorem hd_RL_117 : yL_tenders.cls ≠ "java/lang/invoke/MethodHandle" ∧ yL_tenders.cls ≠ "java/lang/invoke/VarHandle" ∧ (parseMethodDescriptor yL_tenders.desc).map (fun d => d.parameters.length) = some 3 := ⟨by decide +kernel, by decide +kernel, by decide +kernel⟩
theorem cdW_L_tells : Cond.codeWith yL_tells cL_tells 5 (some .int) [(0, 58, 59, 55), (0, 58, 64, 57)] ∈ UW := UW_m (i := 688) (by decide +kernel) (by decide +kernel)
theorem st_L_tells : Cond.static yL_tells ∈ UW := UW_m (i := 687) (by decide +kernel) (by decide +kernel)
theorem ml_RL_92 : Cond.methodLink RL 92 yL_tells ∈ UW := UW_m (i := 686) (by decide +kernel) (by decide +kernel)
theorem hd_RL_92 : yL_tells.cls ≠ "java/lang/invoke/MethodHandle" ∧ yL_tells.cls ≠ "java/lang/invoke/VarHandle" ∧ (parseMethodDescriptor yL_tells.desc).map (fun d => d.parameters.length) = some 4 := ⟨by decide +kernel, by decide +kernel, by decide +kernel⟩
set_option maxRecDepth 100000 in
set_option maxHeartbeats 1000000 in
theorem c_L_does_0 (l : Launch) (D : Gt) (T : List Nat) (ad : Nat → Nat) (σ : Mm) {nr ng : Nat} (hT : TG nr ng T) (x2 x3 : Int32) {pst : Int32 → St → Prop} {ex : String → Prop} (hM : KI D l yX5_parcel (uws yX5_parcel cX5_parcel 3 (some .int)) (RM 9 40 400) [.ref (ad 0), .int x2] (T, ad, cO D ad σ) pst ex 40 400) (hE : ∀ E, ex E → E = sIOB ∨ E = sIAE ∨ E = sISE) : KW D l yL_does (uwsW yL_does cL_does 5 (some .int) [(0, 186, 187, 55), (0, 186, 192, 57), (0, 186, 197, 59)]) (RM 10 40 400) [.ref (ad 0), .int 0, .int x2, .int x3] (T, ad, cO D ad σ) (fun r S1 => (pst r S1) ∨ (r = -70 ∧ S1 = (T, ad, cO D ad σ) ∧ ∃ E, ex E)) 40 400 := by
  refine KW_of (own := RL) (L0 := [some (.ref (ad 0)), some (.int 0), some (.int x2), some (.int x3), none]) (by decide +kernel) rfl (catc rfl (catc rfl (catc rfl (catc rfl cat0)))) (Nat.le_of_ble_eq_true rfl) rfl ?_
  intro p e s m args below meth c A C hNC
  refine r_iload1 (pc := 0) C dL_does_0 ?_
  refine r_if_ne (pc := 1) C (tgt := 12) dL_does_1 (by decide) (fun h => absurd rfl h) (fun _ => ?_)
  refine r_aload0 (pc := 4) C dL_does_4 ?_
  refine r_iload2 (pc := 5) C dL_does_5 ?_
  refine r_callVI (pc := 6) C hM ml_RL_8 im_X5_parcel se_X5_parcel ini_X5_parcel cd_X5_parcel hd_RL_8 (hT.f (k := 0) (by decide)) rfl rfl rfl rfl (Nat.le_of_ble_eq_true rfl) ⟨rfl, rfl⟩ (by decide) (by decide) dL_does_6 (fun E ce q9 H1 locs1 ls hx hP hD hS hl h1 h2 h3 => ?_) ?_
  · rcases hE E hx with rfl | rfl | rfl
    · refine r_catch (name := sIOB) C hNC [] [⟨0, 186, 192, 57⟩, ⟨0, 186, 197, 59⟩] ⟨0, 186, 187, 55⟩ rfl (fun z hz => by cases hz) (by decide) (by decide) kl_RL_55 xn_IOB hP hD hS hl h1 h2 h3 ?_
      refine r_astore4 (pc := 187) C dL_does_187 ?_
      refine r_bipush (pc := 189) C (v := (-70)) dL_does_189 (by decide) ?_
      exact r_iret C rfl dL_does_191 (Or.inr ⟨rfl, rfl, _, hx⟩) (by decide) (by decide)
    · refine r_catch (name := sIAE) C hNC [⟨0, 186, 187, 55⟩] [⟨0, 186, 197, 59⟩] ⟨0, 186, 192, 57⟩ rfl (fun z hz => by rw [List.mem_singleton.mp hz]; exact (Or.inr ⟨by decide, sIOB, kl_RL_55, by decide⟩)) (by decide) (by decide) kl_RL_57 xn_IAE hP hD hS hl h1 h2 h3 ?_
      refine r_astore4 (pc := 192) C dL_does_192 ?_
      refine r_bipush (pc := 194) C (v := (-70)) dL_does_194 (by decide) ?_
      exact r_iret C rfl dL_does_196 (Or.inr ⟨rfl, rfl, _, hx⟩) (by decide) (by decide)
    · refine r_catch (name := sISE) C hNC [⟨0, 186, 187, 55⟩, ⟨0, 186, 192, 57⟩] [] ⟨0, 186, 197, 59⟩ rfl (fun z hz => by
          rcases List.mem_cons.mp hz with q | q
          · rw [q]; exact (Or.inr ⟨by decide, sIOB, kl_RL_55, by decide⟩)
          · rw [List.mem_singleton.mp q]; exact (Or.inr ⟨by decide, sIAE, kl_RL_57, by decide⟩)) (by decide) (by decide) kl_RL_59 xn_ISE hP hD hS hl h1 h2 h3 ?_
      refine r_astore4 (pc := 197) C dL_does_197 ?_
      refine r_bipush (pc := 199) C (v := (-70)) dL_does_199 (by decide) ?_
      exact r_iret C rfl dL_does_201 (Or.inr ⟨rfl, rfl, _, hx⟩) (by decide) (by decide)
  · intro v S1 hps
    refine r_goto (pc := 9) C (tgt := 186) dL_does_9 (by decide) ?_
    exact r_iret C rfl dL_does_186 (Or.inl hps) (by decide) (by decide)
set_option maxRecDepth 100000 in
set_option maxHeartbeats 1000000 in
theorem c_L_does_1 (l : Launch) (D : Gt) (T : List Nat) (ad : Nat → Nat) (σ : Mm) {nr ng : Nat} (hT : TG nr ng T) (x2 x3 : Int32) {pst : Int32 → St → Prop} {ex : String → Prop} (hM : KI D l yX5_drift (uws yX5_drift cX5_drift 4 (some .int)) (RM 9 40 400) [.ref (ad 0), .int x2, .int x3] (T, ad, cO D ad σ) pst ex 40 400) (hE : ∀ E, ex E → E = sIOB ∨ E = sIAE ∨ E = sISE) : KW D l yL_does (uwsW yL_does cL_does 5 (some .int) [(0, 186, 187, 55), (0, 186, 192, 57), (0, 186, 197, 59)]) (RM 10 40 400) [.ref (ad 0), .int 1, .int x2, .int x3] (T, ad, cO D ad σ) (fun r S1 => (pst r S1) ∨ (r = -70 ∧ S1 = (T, ad, cO D ad σ) ∧ ∃ E, ex E)) 40 400 := by
  refine KW_of (own := RL) (L0 := [some (.ref (ad 0)), some (.int 1), some (.int x2), some (.int x3), none]) (by decide +kernel) rfl (catc rfl (catc rfl (catc rfl (catc rfl cat0)))) (Nat.le_of_ble_eq_true rfl) rfl ?_
  intro p e s m args below meth c A C hNC
  refine r_iload1 (pc := 0) C dL_does_0 ?_
  refine r_if_ne (pc := 1) C (tgt := 12) dL_does_1 (by decide) (fun _ => ?_) (fun h => absurd h (by decide))
  refine r_iload1 (pc := 12) C dL_does_12 ?_
  refine r_iconst (pc := 13) C (v := 1) dL_does_13 (by decide) ?_
  refine r_icmp_ne (pc := 14) C (tgt := 26) dL_does_14 (by decide) (fun h => absurd rfl h) (fun _ => ?_)
  refine r_aload0 (pc := 17) C dL_does_17 ?_
  refine r_iload2 (pc := 18) C dL_does_18 ?_
  refine r_iload3 (pc := 19) C dL_does_19 ?_
  refine r_callVI (pc := 20) C hM ml_RL_14 im_X5_drift se_X5_drift ini_X5_drift cd_X5_drift hd_RL_14 (hT.f (k := 0) (by decide)) rfl rfl rfl rfl (Nat.le_of_ble_eq_true rfl) ⟨rfl, rfl⟩ (by decide) (by decide) dL_does_20 (fun E ce q9 H1 locs1 ls hx hP hD hS hl h1 h2 h3 => ?_) ?_
  · rcases hE E hx with rfl | rfl | rfl
    · refine r_catch (name := sIOB) C hNC [] [⟨0, 186, 192, 57⟩, ⟨0, 186, 197, 59⟩] ⟨0, 186, 187, 55⟩ rfl (fun z hz => by cases hz) (by decide) (by decide) kl_RL_55 xn_IOB hP hD hS hl h1 h2 h3 ?_
      refine r_astore4 (pc := 187) C dL_does_187 ?_
      refine r_bipush (pc := 189) C (v := (-70)) dL_does_189 (by decide) ?_
      exact r_iret C rfl dL_does_191 (Or.inr ⟨rfl, rfl, _, hx⟩) (by decide) (by decide)
    · refine r_catch (name := sIAE) C hNC [⟨0, 186, 187, 55⟩] [⟨0, 186, 197, 59⟩] ⟨0, 186, 192, 57⟩ rfl (fun z hz => by rw [List.mem_singleton.mp hz]; exact (Or.inr ⟨by decide, sIOB, kl_RL_55, by decide⟩)) (by decide) (by decide) kl_RL_57 xn_IAE hP hD hS hl h1 h2 h3 ?_
      refine r_astore4 (pc := 192) C dL_does_192 ?_
      refine r_bipush (pc := 194) C (v := (-70)) dL_does_194 (by decide) ?_
      exact r_iret C rfl dL_does_196 (Or.inr ⟨rfl, rfl, _, hx⟩) (by decide) (by decide)
    · refine r_catch (name := sISE) C hNC [⟨0, 186, 187, 55⟩, ⟨0, 186, 192, 57⟩] [] ⟨0, 186, 197, 59⟩ rfl (fun z hz => by
          rcases List.mem_cons.mp hz with q | q
          · rw [q]; exact (Or.inr ⟨by decide, sIOB, kl_RL_55, by decide⟩)
          · rw [List.mem_singleton.mp q]; exact (Or.inr ⟨by decide, sIAE, kl_RL_57, by decide⟩)) (by decide) (by decide) kl_RL_59 xn_ISE hP hD hS hl h1 h2 h3 ?_
      refine r_astore4 (pc := 197) C dL_does_197 ?_
      refine r_bipush (pc := 199) C (v := (-70)) dL_does_199 (by decide) ?_
      exact r_iret C rfl dL_does_201 (Or.inr ⟨rfl, rfl, _, hx⟩) (by decide) (by decide)
  · intro v S1 hps
    refine r_goto (pc := 23) C (tgt := 186) dL_does_23 (by decide) ?_
    exact r_iret C rfl dL_does_186 (Or.inl hps) (by decide) (by decide)
set_option maxRecDepth 100000 in
set_option maxHeartbeats 1000000 in
theorem c_L_does_2 (l : Launch) (D : Gt) (T : List Nat) (ad : Nat → Nat) (σ : Mm) {nr ng : Nat} (hT : TG nr ng T) (x2 x3 : Int32) {pst : Int32 → St → Prop} {ex : String → Prop} (hM : KI D l yX5_sort (uws yX5_sort cX5_sort 5 (some .int)) (RM 9 40 400) [.ref (ad 0), .int x2, .int x3] (T, ad, cO D ad σ) pst ex 40 400) (hE : ∀ E, ex E → E = sIOB ∨ E = sIAE ∨ E = sISE) : KW D l yL_does (uwsW yL_does cL_does 5 (some .int) [(0, 186, 187, 55), (0, 186, 192, 57), (0, 186, 197, 59)]) (RM 10 40 400) [.ref (ad 0), .int 2, .int x2, .int x3] (T, ad, cO D ad σ) (fun r S1 => (pst r S1) ∨ (r = -70 ∧ S1 = (T, ad, cO D ad σ) ∧ ∃ E, ex E)) 40 400 := by
  refine KW_of (own := RL) (L0 := [some (.ref (ad 0)), some (.int 2), some (.int x2), some (.int x3), none]) (by decide +kernel) rfl (catc rfl (catc rfl (catc rfl (catc rfl cat0)))) (Nat.le_of_ble_eq_true rfl) rfl ?_
  intro p e s m args below meth c A C hNC
  refine r_iload1 (pc := 0) C dL_does_0 ?_
  refine r_if_ne (pc := 1) C (tgt := 12) dL_does_1 (by decide) (fun _ => ?_) (fun h => absurd h (by decide))
  refine r_iload1 (pc := 12) C dL_does_12 ?_
  refine r_iconst (pc := 13) C (v := 1) dL_does_13 (by decide) ?_
  refine r_icmp_ne (pc := 14) C (tgt := 26) dL_does_14 (by decide) (fun _ => ?_) (fun h => absurd h (by decide))
  refine r_iload1 (pc := 26) C dL_does_26 ?_
  refine r_iconst (pc := 27) C (v := 2) dL_does_27 (by decide) ?_
  refine r_icmp_ne (pc := 28) C (tgt := 40) dL_does_28 (by decide) (fun h => absurd rfl h) (fun _ => ?_)
  refine r_aload0 (pc := 31) C dL_does_31 ?_
  refine r_iload2 (pc := 32) C dL_does_32 ?_
  refine r_iload3 (pc := 33) C dL_does_33 ?_
  refine r_callVI (pc := 34) C hM ml_RL_18 im_X5_sort se_X5_sort ini_X5_sort cd_X5_sort hd_RL_18 (hT.f (k := 0) (by decide)) rfl rfl rfl rfl (Nat.le_of_ble_eq_true rfl) ⟨rfl, rfl⟩ (by decide) (by decide) dL_does_34 (fun E ce q9 H1 locs1 ls hx hP hD hS hl h1 h2 h3 => ?_) ?_
  · rcases hE E hx with rfl | rfl | rfl
    · refine r_catch (name := sIOB) C hNC [] [⟨0, 186, 192, 57⟩, ⟨0, 186, 197, 59⟩] ⟨0, 186, 187, 55⟩ rfl (fun z hz => by cases hz) (by decide) (by decide) kl_RL_55 xn_IOB hP hD hS hl h1 h2 h3 ?_
      refine r_astore4 (pc := 187) C dL_does_187 ?_
      refine r_bipush (pc := 189) C (v := (-70)) dL_does_189 (by decide) ?_
      exact r_iret C rfl dL_does_191 (Or.inr ⟨rfl, rfl, _, hx⟩) (by decide) (by decide)
    · refine r_catch (name := sIAE) C hNC [⟨0, 186, 187, 55⟩] [⟨0, 186, 197, 59⟩] ⟨0, 186, 192, 57⟩ rfl (fun z hz => by rw [List.mem_singleton.mp hz]; exact (Or.inr ⟨by decide, sIOB, kl_RL_55, by decide⟩)) (by decide) (by decide) kl_RL_57 xn_IAE hP hD hS hl h1 h2 h3 ?_
      refine r_astore4 (pc := 192) C dL_does_192 ?_
      refine r_bipush (pc := 194) C (v := (-70)) dL_does_194 (by decide) ?_
      exact r_iret C rfl dL_does_196 (Or.inr ⟨rfl, rfl, _, hx⟩) (by decide) (by decide)
    · refine r_catch (name := sISE) C hNC [⟨0, 186, 187, 55⟩, ⟨0, 186, 192, 57⟩] [] ⟨0, 186, 197, 59⟩ rfl (fun z hz => by
          rcases List.mem_cons.mp hz with q | q
          · rw [q]; exact (Or.inr ⟨by decide, sIOB, kl_RL_55, by decide⟩)
          · rw [List.mem_singleton.mp q]; exact (Or.inr ⟨by decide, sIAE, kl_RL_57, by decide⟩)) (by decide) (by decide) kl_RL_59 xn_ISE hP hD hS hl h1 h2 h3 ?_
      refine r_astore4 (pc := 197) C dL_does_197 ?_
      refine r_bipush (pc := 199) C (v := (-70)) dL_does_199 (by decide) ?_
      exact r_iret C rfl dL_does_201 (Or.inr ⟨rfl, rfl, _, hx⟩) (by decide) (by decide)
  · intro v S1 hps
    refine r_goto (pc := 37) C (tgt := 186) dL_does_37 (by decide) ?_
    exact r_iret C rfl dL_does_186 (Or.inl hps) (by decide) (by decide)
set_option maxRecDepth 100000 in
set_option maxHeartbeats 1000000 in
theorem c_L_does_3 (l : Launch) (D : Gt) (T : List Nat) (ad : Nat → Nat) (σ : Mm) {nr ng : Nat} (hT : TG nr ng T) (x2 x3 : Int32) {pst : Int32 → St → Prop} {ex : String → Prop} (hM : KI D l yX5_boxes (uws yX5_boxes cX5_boxes 3 (some .int)) (RM 9 40 400) [.ref (ad 0), .int x2] (T, ad, cO D ad σ) pst ex 40 400) (hE : ∀ E, ex E → E = sIOB ∨ E = sIAE ∨ E = sISE) : KW D l yL_does (uwsW yL_does cL_does 5 (some .int) [(0, 186, 187, 55), (0, 186, 192, 57), (0, 186, 197, 59)]) (RM 10 40 400) [.ref (ad 0), .int 3, .int x2, .int x3] (T, ad, cO D ad σ) (fun r S1 => (pst r S1) ∨ (r = -70 ∧ S1 = (T, ad, cO D ad σ) ∧ ∃ E, ex E)) 40 400 := by
  refine KW_of (own := RL) (L0 := [some (.ref (ad 0)), some (.int 3), some (.int x2), some (.int x3), none]) (by decide +kernel) rfl (catc rfl (catc rfl (catc rfl (catc rfl cat0)))) (Nat.le_of_ble_eq_true rfl) rfl ?_
  intro p e s m args below meth c A C hNC
  refine r_iload1 (pc := 0) C dL_does_0 ?_
  refine r_if_ne (pc := 1) C (tgt := 12) dL_does_1 (by decide) (fun _ => ?_) (fun h => absurd h (by decide))
  refine r_iload1 (pc := 12) C dL_does_12 ?_
  refine r_iconst (pc := 13) C (v := 1) dL_does_13 (by decide) ?_
  refine r_icmp_ne (pc := 14) C (tgt := 26) dL_does_14 (by decide) (fun _ => ?_) (fun h => absurd h (by decide))
  refine r_iload1 (pc := 26) C dL_does_26 ?_
  refine r_iconst (pc := 27) C (v := 2) dL_does_27 (by decide) ?_
  refine r_icmp_ne (pc := 28) C (tgt := 40) dL_does_28 (by decide) (fun _ => ?_) (fun h => absurd h (by decide))
  refine r_iload1 (pc := 40) C dL_does_40 ?_
  refine r_iconst (pc := 41) C (v := 3) dL_does_41 (by decide) ?_
  refine r_icmp_ne (pc := 42) C (tgt := 53) dL_does_42 (by decide) (fun h => absurd rfl h) (fun _ => ?_)
  refine r_aload0 (pc := 45) C dL_does_45 ?_
  refine r_iload2 (pc := 46) C dL_does_46 ?_
  refine r_callVI (pc := 47) C hM ml_RL_21 im_X5_boxes se_X5_boxes ini_X5_boxes cd_X5_boxes hd_RL_21 (hT.f (k := 0) (by decide)) rfl rfl rfl rfl (Nat.le_of_ble_eq_true rfl) ⟨rfl, rfl⟩ (by decide) (by decide) dL_does_47 (fun E ce q9 H1 locs1 ls hx hP hD hS hl h1 h2 h3 => ?_) ?_
  · rcases hE E hx with rfl | rfl | rfl
    · refine r_catch (name := sIOB) C hNC [] [⟨0, 186, 192, 57⟩, ⟨0, 186, 197, 59⟩] ⟨0, 186, 187, 55⟩ rfl (fun z hz => by cases hz) (by decide) (by decide) kl_RL_55 xn_IOB hP hD hS hl h1 h2 h3 ?_
      refine r_astore4 (pc := 187) C dL_does_187 ?_
      refine r_bipush (pc := 189) C (v := (-70)) dL_does_189 (by decide) ?_
      exact r_iret C rfl dL_does_191 (Or.inr ⟨rfl, rfl, _, hx⟩) (by decide) (by decide)
    · refine r_catch (name := sIAE) C hNC [⟨0, 186, 187, 55⟩] [⟨0, 186, 197, 59⟩] ⟨0, 186, 192, 57⟩ rfl (fun z hz => by rw [List.mem_singleton.mp hz]; exact (Or.inr ⟨by decide, sIOB, kl_RL_55, by decide⟩)) (by decide) (by decide) kl_RL_57 xn_IAE hP hD hS hl h1 h2 h3 ?_
      refine r_astore4 (pc := 192) C dL_does_192 ?_
      refine r_bipush (pc := 194) C (v := (-70)) dL_does_194 (by decide) ?_
      exact r_iret C rfl dL_does_196 (Or.inr ⟨rfl, rfl, _, hx⟩) (by decide) (by decide)
    · refine r_catch (name := sISE) C hNC [⟨0, 186, 187, 55⟩, ⟨0, 186, 192, 57⟩] [] ⟨0, 186, 197, 59⟩ rfl (fun z hz => by
          rcases List.mem_cons.mp hz with q | q
          · rw [q]; exact (Or.inr ⟨by decide, sIOB, kl_RL_55, by decide⟩)
          · rw [List.mem_singleton.mp q]; exact (Or.inr ⟨by decide, sIAE, kl_RL_57, by decide⟩)) (by decide) (by decide) kl_RL_59 xn_ISE hP hD hS hl h1 h2 h3 ?_
      refine r_astore4 (pc := 197) C dL_does_197 ?_
      refine r_bipush (pc := 199) C (v := (-70)) dL_does_199 (by decide) ?_
      exact r_iret C rfl dL_does_201 (Or.inr ⟨rfl, rfl, _, hx⟩) (by decide) (by decide)
  · intro v S1 hps
    refine r_goto (pc := 50) C (tgt := 186) dL_does_50 (by decide) ?_
    exact r_iret C rfl dL_does_186 (Or.inl hps) (by decide) (by decide)
set_option maxRecDepth 100000 in
set_option maxHeartbeats 1000000 in
theorem c_L_does_4 (l : Launch) (D : Gt) (T : List Nat) (ad : Nat → Nat) (σ : Mm) {nr ng : Nat} (hT : TG nr ng T) (x2 x3 : Int32) {pst : Int32 → St → Prop} {ex : String → Prop} (hM : KI D l yX5_bid (uws yX5_bid cX5_bid 4 (some .int)) (RM 9 40 400) [.ref (ad 0), .int x2, .int x3] (T, ad, cO D ad σ) pst ex 40 400) (hE : ∀ E, ex E → E = sIOB ∨ E = sIAE ∨ E = sISE) : KW D l yL_does (uwsW yL_does cL_does 5 (some .int) [(0, 186, 187, 55), (0, 186, 192, 57), (0, 186, 197, 59)]) (RM 10 40 400) [.ref (ad 0), .int 4, .int x2, .int x3] (T, ad, cO D ad σ) (fun r S1 => (pst r S1) ∨ (r = -70 ∧ S1 = (T, ad, cO D ad σ) ∧ ∃ E, ex E)) 40 400 := by
  refine KW_of (own := RL) (L0 := [some (.ref (ad 0)), some (.int 4), some (.int x2), some (.int x3), none]) (by decide +kernel) rfl (catc rfl (catc rfl (catc rfl (catc rfl cat0)))) (Nat.le_of_ble_eq_true rfl) rfl ?_
  intro p e s m args below meth c A C hNC
  refine r_iload1 (pc := 0) C dL_does_0 ?_
  refine r_if_ne (pc := 1) C (tgt := 12) dL_does_1 (by decide) (fun _ => ?_) (fun h => absurd h (by decide))
  refine r_iload1 (pc := 12) C dL_does_12 ?_
  refine r_iconst (pc := 13) C (v := 1) dL_does_13 (by decide) ?_
  refine r_icmp_ne (pc := 14) C (tgt := 26) dL_does_14 (by decide) (fun _ => ?_) (fun h => absurd h (by decide))
  refine r_iload1 (pc := 26) C dL_does_26 ?_
  refine r_iconst (pc := 27) C (v := 2) dL_does_27 (by decide) ?_
  refine r_icmp_ne (pc := 28) C (tgt := 40) dL_does_28 (by decide) (fun _ => ?_) (fun h => absurd h (by decide))
  refine r_iload1 (pc := 40) C dL_does_40 ?_
  refine r_iconst (pc := 41) C (v := 3) dL_does_41 (by decide) ?_
  refine r_icmp_ne (pc := 42) C (tgt := 53) dL_does_42 (by decide) (fun _ => ?_) (fun h => absurd h (by decide))
  refine r_iload1 (pc := 53) C dL_does_53 ?_
  refine r_iconst (pc := 54) C (v := 4) dL_does_54 (by decide) ?_
  refine r_icmp_ne (pc := 55) C (tgt := 67) dL_does_55 (by decide) (fun h => absurd rfl h) (fun _ => ?_)
  refine r_aload0 (pc := 58) C dL_does_58 ?_
  refine r_iload2 (pc := 59) C dL_does_59 ?_
  refine r_iload3 (pc := 60) C dL_does_60 ?_
  refine r_callVI (pc := 61) C hM ml_RL_24 im_X5_bid se_X5_bid ini_X5_bid cd_X5_bid hd_RL_24 (hT.f (k := 0) (by decide)) rfl rfl rfl rfl (Nat.le_of_ble_eq_true rfl) ⟨rfl, rfl⟩ (by decide) (by decide) dL_does_61 (fun E ce q9 H1 locs1 ls hx hP hD hS hl h1 h2 h3 => ?_) ?_
  · rcases hE E hx with rfl | rfl | rfl
    · refine r_catch (name := sIOB) C hNC [] [⟨0, 186, 192, 57⟩, ⟨0, 186, 197, 59⟩] ⟨0, 186, 187, 55⟩ rfl (fun z hz => by cases hz) (by decide) (by decide) kl_RL_55 xn_IOB hP hD hS hl h1 h2 h3 ?_
      refine r_astore4 (pc := 187) C dL_does_187 ?_
      refine r_bipush (pc := 189) C (v := (-70)) dL_does_189 (by decide) ?_
      exact r_iret C rfl dL_does_191 (Or.inr ⟨rfl, rfl, _, hx⟩) (by decide) (by decide)
    · refine r_catch (name := sIAE) C hNC [⟨0, 186, 187, 55⟩] [⟨0, 186, 197, 59⟩] ⟨0, 186, 192, 57⟩ rfl (fun z hz => by rw [List.mem_singleton.mp hz]; exact (Or.inr ⟨by decide, sIOB, kl_RL_55, by decide⟩)) (by decide) (by decide) kl_RL_57 xn_IAE hP hD hS hl h1 h2 h3 ?_
      refine r_astore4 (pc := 192) C dL_does_192 ?_
      refine r_bipush (pc := 194) C (v := (-70)) dL_does_194 (by decide) ?_
      exact r_iret C rfl dL_does_196 (Or.inr ⟨rfl, rfl, _, hx⟩) (by decide) (by decide)
    · refine r_catch (name := sISE) C hNC [⟨0, 186, 187, 55⟩, ⟨0, 186, 192, 57⟩] [] ⟨0, 186, 197, 59⟩ rfl (fun z hz => by
          rcases List.mem_cons.mp hz with q | q
          · rw [q]; exact (Or.inr ⟨by decide, sIOB, kl_RL_55, by decide⟩)
          · rw [List.mem_singleton.mp q]; exact (Or.inr ⟨by decide, sIAE, kl_RL_57, by decide⟩)) (by decide) (by decide) kl_RL_59 xn_ISE hP hD hS hl h1 h2 h3 ?_
      refine r_astore4 (pc := 197) C dL_does_197 ?_
      refine r_bipush (pc := 199) C (v := (-70)) dL_does_199 (by decide) ?_
      exact r_iret C rfl dL_does_201 (Or.inr ⟨rfl, rfl, _, hx⟩) (by decide) (by decide)
  · intro v S1 hps
    refine r_goto (pc := 64) C (tgt := 186) dL_does_64 (by decide) ?_
    exact r_iret C rfl dL_does_186 (Or.inl hps) (by decide) (by decide)
set_option maxRecDepth 100000 in
set_option maxHeartbeats 1000000 in
theorem c_L_does_5 (l : Launch) (D : Gt) (T : List Nat) (ad : Nat → Nat) (σ : Mm) {nr ng : Nat} (hT : TG nr ng T) (x2 x3 : Int32) {pst : Int32 → St → Prop} {ex : String → Prop} (hM : KI D l yX5_close (uws yX5_close cX5_close 3 (some .int)) (RM 9 40 400) [.ref (ad 0)] (T, ad, cO D ad σ) pst ex 40 400) (hE : ∀ E, ex E → E = sIOB ∨ E = sIAE ∨ E = sISE) : KW D l yL_does (uwsW yL_does cL_does 5 (some .int) [(0, 186, 187, 55), (0, 186, 192, 57), (0, 186, 197, 59)]) (RM 10 40 400) [.ref (ad 0), .int 5, .int x2, .int x3] (T, ad, cO D ad σ) (fun r S1 => (pst r S1) ∨ (r = -70 ∧ S1 = (T, ad, cO D ad σ) ∧ ∃ E, ex E)) 40 400 := by
  refine KW_of (own := RL) (L0 := [some (.ref (ad 0)), some (.int 5), some (.int x2), some (.int x3), none]) (by decide +kernel) rfl (catc rfl (catc rfl (catc rfl (catc rfl cat0)))) (Nat.le_of_ble_eq_true rfl) rfl ?_
  intro p e s m args below meth c A C hNC
  refine r_iload1 (pc := 0) C dL_does_0 ?_
  refine r_if_ne (pc := 1) C (tgt := 12) dL_does_1 (by decide) (fun _ => ?_) (fun h => absurd h (by decide))
  refine r_iload1 (pc := 12) C dL_does_12 ?_
  refine r_iconst (pc := 13) C (v := 1) dL_does_13 (by decide) ?_
  refine r_icmp_ne (pc := 14) C (tgt := 26) dL_does_14 (by decide) (fun _ => ?_) (fun h => absurd h (by decide))
  refine r_iload1 (pc := 26) C dL_does_26 ?_
  refine r_iconst (pc := 27) C (v := 2) dL_does_27 (by decide) ?_
  refine r_icmp_ne (pc := 28) C (tgt := 40) dL_does_28 (by decide) (fun _ => ?_) (fun h => absurd h (by decide))
  refine r_iload1 (pc := 40) C dL_does_40 ?_
  refine r_iconst (pc := 41) C (v := 3) dL_does_41 (by decide) ?_
  refine r_icmp_ne (pc := 42) C (tgt := 53) dL_does_42 (by decide) (fun _ => ?_) (fun h => absurd h (by decide))
  refine r_iload1 (pc := 53) C dL_does_53 ?_
  refine r_iconst (pc := 54) C (v := 4) dL_does_54 (by decide) ?_
  refine r_icmp_ne (pc := 55) C (tgt := 67) dL_does_55 (by decide) (fun _ => ?_) (fun h => absurd h (by decide))
  refine r_iload1 (pc := 67) C dL_does_67 ?_
  refine r_iconst (pc := 68) C (v := 5) dL_does_68 (by decide) ?_
  refine r_icmp_ne (pc := 69) C (tgt := 79) dL_does_69 (by decide) (fun h => absurd rfl h) (fun _ => ?_)
  refine r_aload0 (pc := 72) C dL_does_72 ?_
  refine r_callVI (pc := 73) C hM ml_RL_27 im_X5_close se_X5_close ini_X5_close cd_X5_close hd_RL_27 (hT.f (k := 0) (by decide)) rfl rfl rfl rfl (Nat.le_of_ble_eq_true rfl) ⟨rfl, rfl⟩ (by decide) (by decide) dL_does_73 (fun E ce q9 H1 locs1 ls hx hP hD hS hl h1 h2 h3 => ?_) ?_
  · rcases hE E hx with rfl | rfl | rfl
    · refine r_catch (name := sIOB) C hNC [] [⟨0, 186, 192, 57⟩, ⟨0, 186, 197, 59⟩] ⟨0, 186, 187, 55⟩ rfl (fun z hz => by cases hz) (by decide) (by decide) kl_RL_55 xn_IOB hP hD hS hl h1 h2 h3 ?_
      refine r_astore4 (pc := 187) C dL_does_187 ?_
      refine r_bipush (pc := 189) C (v := (-70)) dL_does_189 (by decide) ?_
      exact r_iret C rfl dL_does_191 (Or.inr ⟨rfl, rfl, _, hx⟩) (by decide) (by decide)
    · refine r_catch (name := sIAE) C hNC [⟨0, 186, 187, 55⟩] [⟨0, 186, 197, 59⟩] ⟨0, 186, 192, 57⟩ rfl (fun z hz => by rw [List.mem_singleton.mp hz]; exact (Or.inr ⟨by decide, sIOB, kl_RL_55, by decide⟩)) (by decide) (by decide) kl_RL_57 xn_IAE hP hD hS hl h1 h2 h3 ?_
      refine r_astore4 (pc := 192) C dL_does_192 ?_
      refine r_bipush (pc := 194) C (v := (-70)) dL_does_194 (by decide) ?_
      exact r_iret C rfl dL_does_196 (Or.inr ⟨rfl, rfl, _, hx⟩) (by decide) (by decide)
    · refine r_catch (name := sISE) C hNC [⟨0, 186, 187, 55⟩, ⟨0, 186, 192, 57⟩] [] ⟨0, 186, 197, 59⟩ rfl (fun z hz => by
          rcases List.mem_cons.mp hz with q | q
          · rw [q]; exact (Or.inr ⟨by decide, sIOB, kl_RL_55, by decide⟩)
          · rw [List.mem_singleton.mp q]; exact (Or.inr ⟨by decide, sIAE, kl_RL_57, by decide⟩)) (by decide) (by decide) kl_RL_59 xn_ISE hP hD hS hl h1 h2 h3 ?_
      refine r_astore4 (pc := 197) C dL_does_197 ?_
      refine r_bipush (pc := 199) C (v := (-70)) dL_does_199 (by decide) ?_
      exact r_iret C rfl dL_does_201 (Or.inr ⟨rfl, rfl, _, hx⟩) (by decide) (by decide)
  · intro v S1 hps
    refine r_goto (pc := 76) C (tgt := 186) dL_does_76 (by decide) ?_
    exact r_iret C rfl dL_does_186 (Or.inl hps) (by decide) (by decide)
set_option maxRecDepth 100000 in
set_option maxHeartbeats 1000000 in
theorem c_L_does_6 (l : Launch) (D : Gt) (T : List Nat) (ad : Nat → Nat) (σ : Mm) {nr ng : Nat} (hT : TG nr ng T) (x2 x3 : Int32) {pst : Int32 → St → Prop} {ex : String → Prop} (hM : KI D l yX5_plan (uws yX5_plan cX5_plan 6 (some .int)) (RM 9 2 12) [.ref (ad 0), .int x2] (T, ad, cO D ad σ) pst ex 2 12) (hE : ∀ E, ex E → E = sIOB ∨ E = sIAE ∨ E = sISE) : KW D l yL_does (uwsW yL_does cL_does 5 (some .int) [(0, 186, 187, 55), (0, 186, 192, 57), (0, 186, 197, 59)]) (RM 10 2 12) [.ref (ad 0), .int 6, .int x2, .int x3] (T, ad, cO D ad σ) (fun r S1 => (pst r S1) ∨ (r = -70 ∧ S1 = (T, ad, cO D ad σ) ∧ ∃ E, ex E)) 2 12 := by
  refine KW_of (own := RL) (L0 := [some (.ref (ad 0)), some (.int 6), some (.int x2), some (.int x3), none]) (by decide +kernel) rfl (catc rfl (catc rfl (catc rfl (catc rfl cat0)))) (Nat.le_of_ble_eq_true rfl) rfl ?_
  intro p e s m args below meth c A C hNC
  refine r_iload1 (pc := 0) C dL_does_0 ?_
  refine r_if_ne (pc := 1) C (tgt := 12) dL_does_1 (by decide) (fun _ => ?_) (fun h => absurd h (by decide))
  refine r_iload1 (pc := 12) C dL_does_12 ?_
  refine r_iconst (pc := 13) C (v := 1) dL_does_13 (by decide) ?_
  refine r_icmp_ne (pc := 14) C (tgt := 26) dL_does_14 (by decide) (fun _ => ?_) (fun h => absurd h (by decide))
  refine r_iload1 (pc := 26) C dL_does_26 ?_
  refine r_iconst (pc := 27) C (v := 2) dL_does_27 (by decide) ?_
  refine r_icmp_ne (pc := 28) C (tgt := 40) dL_does_28 (by decide) (fun _ => ?_) (fun h => absurd h (by decide))
  refine r_iload1 (pc := 40) C dL_does_40 ?_
  refine r_iconst (pc := 41) C (v := 3) dL_does_41 (by decide) ?_
  refine r_icmp_ne (pc := 42) C (tgt := 53) dL_does_42 (by decide) (fun _ => ?_) (fun h => absurd h (by decide))
  refine r_iload1 (pc := 53) C dL_does_53 ?_
  refine r_iconst (pc := 54) C (v := 4) dL_does_54 (by decide) ?_
  refine r_icmp_ne (pc := 55) C (tgt := 67) dL_does_55 (by decide) (fun _ => ?_) (fun h => absurd h (by decide))
  refine r_iload1 (pc := 67) C dL_does_67 ?_
  refine r_iconst (pc := 68) C (v := 5) dL_does_68 (by decide) ?_
  refine r_icmp_ne (pc := 69) C (tgt := 79) dL_does_69 (by decide) (fun _ => ?_) (fun h => absurd h (by decide))
  refine r_iload1 (pc := 79) C dL_does_79 ?_
  refine r_bipush (pc := 80) C (v := 6) dL_does_80 (by decide) ?_
  refine r_icmp_ne (pc := 82) C (tgt := 93) dL_does_82 (by decide) (fun h => absurd rfl h) (fun _ => ?_)
  refine r_aload0 (pc := 85) C dL_does_85 ?_
  refine r_iload2 (pc := 86) C dL_does_86 ?_
  refine r_callVI (pc := 87) C hM ml_RL_31 im_X5_plan se_X5_plan ini_X5_plan cd_X5_plan hd_RL_31 (hT.f (k := 0) (by decide)) rfl rfl rfl rfl (Nat.le_of_ble_eq_true rfl) ⟨rfl, rfl⟩ (by decide) (by decide) dL_does_87 (fun E ce q9 H1 locs1 ls hx hP hD hS hl h1 h2 h3 => ?_) ?_
  · rcases hE E hx with rfl | rfl | rfl
    · refine r_catch (name := sIOB) C hNC [] [⟨0, 186, 192, 57⟩, ⟨0, 186, 197, 59⟩] ⟨0, 186, 187, 55⟩ rfl (fun z hz => by cases hz) (by decide) (by decide) kl_RL_55 xn_IOB hP hD hS hl h1 h2 h3 ?_
      refine r_astore4 (pc := 187) C dL_does_187 ?_
      refine r_bipush (pc := 189) C (v := (-70)) dL_does_189 (by decide) ?_
      exact r_iret C rfl dL_does_191 (Or.inr ⟨rfl, rfl, _, hx⟩) (by decide) (by decide)
    · refine r_catch (name := sIAE) C hNC [⟨0, 186, 187, 55⟩] [⟨0, 186, 197, 59⟩] ⟨0, 186, 192, 57⟩ rfl (fun z hz => by rw [List.mem_singleton.mp hz]; exact (Or.inr ⟨by decide, sIOB, kl_RL_55, by decide⟩)) (by decide) (by decide) kl_RL_57 xn_IAE hP hD hS hl h1 h2 h3 ?_
      refine r_astore4 (pc := 192) C dL_does_192 ?_
      refine r_bipush (pc := 194) C (v := (-70)) dL_does_194 (by decide) ?_
      exact r_iret C rfl dL_does_196 (Or.inr ⟨rfl, rfl, _, hx⟩) (by decide) (by decide)
    · refine r_catch (name := sISE) C hNC [⟨0, 186, 187, 55⟩, ⟨0, 186, 192, 57⟩] [] ⟨0, 186, 197, 59⟩ rfl (fun z hz => by
          rcases List.mem_cons.mp hz with q | q
          · rw [q]; exact (Or.inr ⟨by decide, sIOB, kl_RL_55, by decide⟩)
          · rw [List.mem_singleton.mp q]; exact (Or.inr ⟨by decide, sIAE, kl_RL_57, by decide⟩)) (by decide) (by decide) kl_RL_59 xn_ISE hP hD hS hl h1 h2 h3 ?_
      refine r_astore4 (pc := 197) C dL_does_197 ?_
      refine r_bipush (pc := 199) C (v := (-70)) dL_does_199 (by decide) ?_
      exact r_iret C rfl dL_does_201 (Or.inr ⟨rfl, rfl, _, hx⟩) (by decide) (by decide)
  · intro v S1 hps
    refine r_goto (pc := 90) C (tgt := 186) dL_does_90 (by decide) ?_
    exact r_iret C rfl dL_does_186 (Or.inl hps) (by decide) (by decide)
set_option maxRecDepth 100000 in
set_option maxHeartbeats 1000000 in
theorem c_L_does_8 (l : Launch) (D : Gt) (T : List Nat) (ad : Nat → Nat) (σ : Mm) {nr ng : Nat} (hT : TG nr ng T) (x2 x3 : Int32) {pst : Int32 → St → Prop} {ex : String → Prop} (hM : KI D l yX5_cut (uws yX5_cut cX5_cut 6 (some .int)) (RM 9 40 400) [.ref (ad 0), .int x2] (T, ad, cO D ad σ) pst ex 40 400) (hE : ∀ E, ex E → E = sIOB ∨ E = sIAE ∨ E = sISE) : KW D l yL_does (uwsW yL_does cL_does 5 (some .int) [(0, 186, 187, 55), (0, 186, 192, 57), (0, 186, 197, 59)]) (RM 10 40 400) [.ref (ad 0), .int 8, .int x2, .int x3] (T, ad, cO D ad σ) (fun r S1 => (pst r S1) ∨ (r = -70 ∧ S1 = (T, ad, cO D ad σ) ∧ ∃ E, ex E)) 40 400 := by
  refine KW_of (own := RL) (L0 := [some (.ref (ad 0)), some (.int 8), some (.int x2), some (.int x3), none]) (by decide +kernel) rfl (catc rfl (catc rfl (catc rfl (catc rfl cat0)))) (Nat.le_of_ble_eq_true rfl) rfl ?_
  intro p e s m args below meth c A C hNC
  refine r_iload1 (pc := 0) C dL_does_0 ?_
  refine r_if_ne (pc := 1) C (tgt := 12) dL_does_1 (by decide) (fun _ => ?_) (fun h => absurd h (by decide))
  refine r_iload1 (pc := 12) C dL_does_12 ?_
  refine r_iconst (pc := 13) C (v := 1) dL_does_13 (by decide) ?_
  refine r_icmp_ne (pc := 14) C (tgt := 26) dL_does_14 (by decide) (fun _ => ?_) (fun h => absurd h (by decide))
  refine r_iload1 (pc := 26) C dL_does_26 ?_
  refine r_iconst (pc := 27) C (v := 2) dL_does_27 (by decide) ?_
  refine r_icmp_ne (pc := 28) C (tgt := 40) dL_does_28 (by decide) (fun _ => ?_) (fun h => absurd h (by decide))
  refine r_iload1 (pc := 40) C dL_does_40 ?_
  refine r_iconst (pc := 41) C (v := 3) dL_does_41 (by decide) ?_
  refine r_icmp_ne (pc := 42) C (tgt := 53) dL_does_42 (by decide) (fun _ => ?_) (fun h => absurd h (by decide))
  refine r_iload1 (pc := 53) C dL_does_53 ?_
  refine r_iconst (pc := 54) C (v := 4) dL_does_54 (by decide) ?_
  refine r_icmp_ne (pc := 55) C (tgt := 67) dL_does_55 (by decide) (fun _ => ?_) (fun h => absurd h (by decide))
  refine r_iload1 (pc := 67) C dL_does_67 ?_
  refine r_iconst (pc := 68) C (v := 5) dL_does_68 (by decide) ?_
  refine r_icmp_ne (pc := 69) C (tgt := 79) dL_does_69 (by decide) (fun _ => ?_) (fun h => absurd h (by decide))
  refine r_iload1 (pc := 79) C dL_does_79 ?_
  refine r_bipush (pc := 80) C (v := 6) dL_does_80 (by decide) ?_
  refine r_icmp_ne (pc := 82) C (tgt := 93) dL_does_82 (by decide) (fun _ => ?_) (fun h => absurd h (by decide))
  refine r_iload1 (pc := 93) C dL_does_93 ?_
  refine r_bipush (pc := 94) C (v := 7) dL_does_94 (by decide) ?_
  refine r_icmp_ne (pc := 96) C (tgt := 107) dL_does_96 (by decide) (fun _ => ?_) (fun h => absurd h (by decide))
  refine r_iload1 (pc := 107) C dL_does_107 ?_
  refine r_bipush (pc := 108) C (v := 8) dL_does_108 (by decide) ?_
  refine r_icmp_ne (pc := 110) C (tgt := 121) dL_does_110 (by decide) (fun h => absurd rfl h) (fun _ => ?_)
  refine r_aload0 (pc := 113) C dL_does_113 ?_
  refine r_iload2 (pc := 114) C dL_does_114 ?_
  refine r_callVI (pc := 115) C hM ml_RL_37 im_X5_cut se_X5_cut ini_X5_cut cd_X5_cut hd_RL_37 (hT.f (k := 0) (by decide)) rfl rfl rfl rfl (Nat.le_of_ble_eq_true rfl) ⟨rfl, rfl⟩ (by decide) (by decide) dL_does_115 (fun E ce q9 H1 locs1 ls hx hP hD hS hl h1 h2 h3 => ?_) ?_
  · rcases hE E hx with rfl | rfl | rfl
    · refine r_catch (name := sIOB) C hNC [] [⟨0, 186, 192, 57⟩, ⟨0, 186, 197, 59⟩] ⟨0, 186, 187, 55⟩ rfl (fun z hz => by cases hz) (by decide) (by decide) kl_RL_55 xn_IOB hP hD hS hl h1 h2 h3 ?_
      refine r_astore4 (pc := 187) C dL_does_187 ?_
      refine r_bipush (pc := 189) C (v := (-70)) dL_does_189 (by decide) ?_
      exact r_iret C rfl dL_does_191 (Or.inr ⟨rfl, rfl, _, hx⟩) (by decide) (by decide)
    · refine r_catch (name := sIAE) C hNC [⟨0, 186, 187, 55⟩] [⟨0, 186, 197, 59⟩] ⟨0, 186, 192, 57⟩ rfl (fun z hz => by rw [List.mem_singleton.mp hz]; exact (Or.inr ⟨by decide, sIOB, kl_RL_55, by decide⟩)) (by decide) (by decide) kl_RL_57 xn_IAE hP hD hS hl h1 h2 h3 ?_
      refine r_astore4 (pc := 192) C dL_does_192 ?_
      refine r_bipush (pc := 194) C (v := (-70)) dL_does_194 (by decide) ?_
      exact r_iret C rfl dL_does_196 (Or.inr ⟨rfl, rfl, _, hx⟩) (by decide) (by decide)
    · refine r_catch (name := sISE) C hNC [⟨0, 186, 187, 55⟩, ⟨0, 186, 192, 57⟩] [] ⟨0, 186, 197, 59⟩ rfl (fun z hz => by
          rcases List.mem_cons.mp hz with q | q
          · rw [q]; exact (Or.inr ⟨by decide, sIOB, kl_RL_55, by decide⟩)
          · rw [List.mem_singleton.mp q]; exact (Or.inr ⟨by decide, sIAE, kl_RL_57, by decide⟩)) (by decide) (by decide) kl_RL_59 xn_ISE hP hD hS hl h1 h2 h3 ?_
      refine r_astore4 (pc := 197) C dL_does_197 ?_
      refine r_bipush (pc := 199) C (v := (-70)) dL_does_199 (by decide) ?_
      exact r_iret C rfl dL_does_201 (Or.inr ⟨rfl, rfl, _, hx⟩) (by decide) (by decide)
  · intro v S1 hps
    refine r_goto (pc := 118) C (tgt := 186) dL_does_118 (by decide) ?_
    exact r_iret C rfl dL_does_186 (Or.inl hps) (by decide) (by decide)
set_option maxRecDepth 100000 in
set_option maxHeartbeats 1000000 in
theorem c_L_does_9 (l : Launch) (D : Gt) (T : List Nat) (ad : Nat → Nat) (σ : Mm) {nr ng : Nat} (hT : TG nr ng T) (x2 x3 : Int32) {pst : Int32 → St → Prop} {ex : String → Prop} (hM : KI D l yX5_recut (uws yX5_recut cX5_recut 5 (some .int)) (RM 9 40 400) [.ref (ad 0), .int x2, .int x3] (T, ad, cO D ad σ) pst ex 40 400) (hE : ∀ E, ex E → E = sIOB ∨ E = sIAE ∨ E = sISE) : KW D l yL_does (uwsW yL_does cL_does 5 (some .int) [(0, 186, 187, 55), (0, 186, 192, 57), (0, 186, 197, 59)]) (RM 10 40 400) [.ref (ad 0), .int 9, .int x2, .int x3] (T, ad, cO D ad σ) (fun r S1 => (pst r S1) ∨ (r = -70 ∧ S1 = (T, ad, cO D ad σ) ∧ ∃ E, ex E)) 40 400 := by
  refine KW_of (own := RL) (L0 := [some (.ref (ad 0)), some (.int 9), some (.int x2), some (.int x3), none]) (by decide +kernel) rfl (catc rfl (catc rfl (catc rfl (catc rfl cat0)))) (Nat.le_of_ble_eq_true rfl) rfl ?_
  intro p e s m args below meth c A C hNC
  refine r_iload1 (pc := 0) C dL_does_0 ?_
  refine r_if_ne (pc := 1) C (tgt := 12) dL_does_1 (by decide) (fun _ => ?_) (fun h => absurd h (by decide))
  refine r_iload1 (pc := 12) C dL_does_12 ?_
  refine r_iconst (pc := 13) C (v := 1) dL_does_13 (by decide) ?_
  refine r_icmp_ne (pc := 14) C (tgt := 26) dL_does_14 (by decide) (fun _ => ?_) (fun h => absurd h (by decide))
  refine r_iload1 (pc := 26) C dL_does_26 ?_
  refine r_iconst (pc := 27) C (v := 2) dL_does_27 (by decide) ?_
  refine r_icmp_ne (pc := 28) C (tgt := 40) dL_does_28 (by decide) (fun _ => ?_) (fun h => absurd h (by decide))
  refine r_iload1 (pc := 40) C dL_does_40 ?_
  refine r_iconst (pc := 41) C (v := 3) dL_does_41 (by decide) ?_
  refine r_icmp_ne (pc := 42) C (tgt := 53) dL_does_42 (by decide) (fun _ => ?_) (fun h => absurd h (by decide))
  refine r_iload1 (pc := 53) C dL_does_53 ?_
  refine r_iconst (pc := 54) C (v := 4) dL_does_54 (by decide) ?_
  refine r_icmp_ne (pc := 55) C (tgt := 67) dL_does_55 (by decide) (fun _ => ?_) (fun h => absurd h (by decide))
  refine r_iload1 (pc := 67) C dL_does_67 ?_
  refine r_iconst (pc := 68) C (v := 5) dL_does_68 (by decide) ?_
  refine r_icmp_ne (pc := 69) C (tgt := 79) dL_does_69 (by decide) (fun _ => ?_) (fun h => absurd h (by decide))
  refine r_iload1 (pc := 79) C dL_does_79 ?_
  refine r_bipush (pc := 80) C (v := 6) dL_does_80 (by decide) ?_
  refine r_icmp_ne (pc := 82) C (tgt := 93) dL_does_82 (by decide) (fun _ => ?_) (fun h => absurd h (by decide))
  refine r_iload1 (pc := 93) C dL_does_93 ?_
  refine r_bipush (pc := 94) C (v := 7) dL_does_94 (by decide) ?_
  refine r_icmp_ne (pc := 96) C (tgt := 107) dL_does_96 (by decide) (fun _ => ?_) (fun h => absurd h (by decide))
  refine r_iload1 (pc := 107) C dL_does_107 ?_
  refine r_bipush (pc := 108) C (v := 8) dL_does_108 (by decide) ?_
  refine r_icmp_ne (pc := 110) C (tgt := 121) dL_does_110 (by decide) (fun _ => ?_) (fun h => absurd h (by decide))
  refine r_iload1 (pc := 121) C dL_does_121 ?_
  refine r_bipush (pc := 122) C (v := 9) dL_does_122 (by decide) ?_
  refine r_icmp_ne (pc := 124) C (tgt := 136) dL_does_124 (by decide) (fun h => absurd rfl h) (fun _ => ?_)
  refine r_aload0 (pc := 127) C dL_does_127 ?_
  refine r_iload2 (pc := 128) C dL_does_128 ?_
  refine r_iload3 (pc := 129) C dL_does_129 ?_
  refine r_callVI (pc := 130) C hM ml_RL_40 im_X5_recut se_X5_recut ini_X5_recut cd_X5_recut hd_RL_40 (hT.f (k := 0) (by decide)) rfl rfl rfl rfl (Nat.le_of_ble_eq_true rfl) ⟨rfl, rfl⟩ (by decide) (by decide) dL_does_130 (fun E ce q9 H1 locs1 ls hx hP hD hS hl h1 h2 h3 => ?_) ?_
  · rcases hE E hx with rfl | rfl | rfl
    · refine r_catch (name := sIOB) C hNC [] [⟨0, 186, 192, 57⟩, ⟨0, 186, 197, 59⟩] ⟨0, 186, 187, 55⟩ rfl (fun z hz => by cases hz) (by decide) (by decide) kl_RL_55 xn_IOB hP hD hS hl h1 h2 h3 ?_
      refine r_astore4 (pc := 187) C dL_does_187 ?_
      refine r_bipush (pc := 189) C (v := (-70)) dL_does_189 (by decide) ?_
      exact r_iret C rfl dL_does_191 (Or.inr ⟨rfl, rfl, _, hx⟩) (by decide) (by decide)
    · refine r_catch (name := sIAE) C hNC [⟨0, 186, 187, 55⟩] [⟨0, 186, 197, 59⟩] ⟨0, 186, 192, 57⟩ rfl (fun z hz => by rw [List.mem_singleton.mp hz]; exact (Or.inr ⟨by decide, sIOB, kl_RL_55, by decide⟩)) (by decide) (by decide) kl_RL_57 xn_IAE hP hD hS hl h1 h2 h3 ?_
      refine r_astore4 (pc := 192) C dL_does_192 ?_
      refine r_bipush (pc := 194) C (v := (-70)) dL_does_194 (by decide) ?_
      exact r_iret C rfl dL_does_196 (Or.inr ⟨rfl, rfl, _, hx⟩) (by decide) (by decide)
    · refine r_catch (name := sISE) C hNC [⟨0, 186, 187, 55⟩, ⟨0, 186, 192, 57⟩] [] ⟨0, 186, 197, 59⟩ rfl (fun z hz => by
          rcases List.mem_cons.mp hz with q | q
          · rw [q]; exact (Or.inr ⟨by decide, sIOB, kl_RL_55, by decide⟩)
          · rw [List.mem_singleton.mp q]; exact (Or.inr ⟨by decide, sIAE, kl_RL_57, by decide⟩)) (by decide) (by decide) kl_RL_59 xn_ISE hP hD hS hl h1 h2 h3 ?_
      refine r_astore4 (pc := 197) C dL_does_197 ?_
      refine r_bipush (pc := 199) C (v := (-70)) dL_does_199 (by decide) ?_
      exact r_iret C rfl dL_does_201 (Or.inr ⟨rfl, rfl, _, hx⟩) (by decide) (by decide)
  · intro v S1 hps
    refine r_goto (pc := 133) C (tgt := 186) dL_does_133 (by decide) ?_
    exact r_iret C rfl dL_does_186 (Or.inl hps) (by decide) (by decide)
set_option maxRecDepth 100000 in
set_option maxHeartbeats 1000000 in
theorem c_L_does_10 (l : Launch) (D : Gt) (T : List Nat) (ad : Nat → Nat) (σ : Mm) {nr ng : Nat} (hT : TG nr ng T) (x2 x3 : Int32) {pst : Int32 → St → Prop} {ex : String → Prop} (hM : KI D l yX5_scale (uws yX5_scale cX5_scale 4 (some .int)) (RM 9 40 400) [.ref (ad 0), .int x2, .int x3] (T, ad, cO D ad σ) pst ex 40 400) (hE : ∀ E, ex E → E = sIOB ∨ E = sIAE ∨ E = sISE) : KW D l yL_does (uwsW yL_does cL_does 5 (some .int) [(0, 186, 187, 55), (0, 186, 192, 57), (0, 186, 197, 59)]) (RM 10 40 400) [.ref (ad 0), .int 10, .int x2, .int x3] (T, ad, cO D ad σ) (fun r S1 => (pst r S1) ∨ (r = -70 ∧ S1 = (T, ad, cO D ad σ) ∧ ∃ E, ex E)) 40 400 := by
  refine KW_of (own := RL) (L0 := [some (.ref (ad 0)), some (.int 10), some (.int x2), some (.int x3), none]) (by decide +kernel) rfl (catc rfl (catc rfl (catc rfl (catc rfl cat0)))) (Nat.le_of_ble_eq_true rfl) rfl ?_
  intro p e s m args below meth c A C hNC
  refine r_iload1 (pc := 0) C dL_does_0 ?_
  refine r_if_ne (pc := 1) C (tgt := 12) dL_does_1 (by decide) (fun _ => ?_) (fun h => absurd h (by decide))
  refine r_iload1 (pc := 12) C dL_does_12 ?_
  refine r_iconst (pc := 13) C (v := 1) dL_does_13 (by decide) ?_
  refine r_icmp_ne (pc := 14) C (tgt := 26) dL_does_14 (by decide) (fun _ => ?_) (fun h => absurd h (by decide))
  refine r_iload1 (pc := 26) C dL_does_26 ?_
  refine r_iconst (pc := 27) C (v := 2) dL_does_27 (by decide) ?_
  refine r_icmp_ne (pc := 28) C (tgt := 40) dL_does_28 (by decide) (fun _ => ?_) (fun h => absurd h (by decide))
  refine r_iload1 (pc := 40) C dL_does_40 ?_
  refine r_iconst (pc := 41) C (v := 3) dL_does_41 (by decide) ?_
  refine r_icmp_ne (pc := 42) C (tgt := 53) dL_does_42 (by decide) (fun _ => ?_) (fun h => absurd h (by decide))
  refine r_iload1 (pc := 53) C dL_does_53 ?_
  refine r_iconst (pc := 54) C (v := 4) dL_does_54 (by decide) ?_
  refine r_icmp_ne (pc := 55) C (tgt := 67) dL_does_55 (by decide) (fun _ => ?_) (fun h => absurd h (by decide))
  refine r_iload1 (pc := 67) C dL_does_67 ?_
  refine r_iconst (pc := 68) C (v := 5) dL_does_68 (by decide) ?_
  refine r_icmp_ne (pc := 69) C (tgt := 79) dL_does_69 (by decide) (fun _ => ?_) (fun h => absurd h (by decide))
  refine r_iload1 (pc := 79) C dL_does_79 ?_
  refine r_bipush (pc := 80) C (v := 6) dL_does_80 (by decide) ?_
  refine r_icmp_ne (pc := 82) C (tgt := 93) dL_does_82 (by decide) (fun _ => ?_) (fun h => absurd h (by decide))
  refine r_iload1 (pc := 93) C dL_does_93 ?_
  refine r_bipush (pc := 94) C (v := 7) dL_does_94 (by decide) ?_
  refine r_icmp_ne (pc := 96) C (tgt := 107) dL_does_96 (by decide) (fun _ => ?_) (fun h => absurd h (by decide))
  refine r_iload1 (pc := 107) C dL_does_107 ?_
  refine r_bipush (pc := 108) C (v := 8) dL_does_108 (by decide) ?_
  refine r_icmp_ne (pc := 110) C (tgt := 121) dL_does_110 (by decide) (fun _ => ?_) (fun h => absurd h (by decide))
  refine r_iload1 (pc := 121) C dL_does_121 ?_
  refine r_bipush (pc := 122) C (v := 9) dL_does_122 (by decide) ?_
  refine r_icmp_ne (pc := 124) C (tgt := 136) dL_does_124 (by decide) (fun _ => ?_) (fun h => absurd h (by decide))
  refine r_iload1 (pc := 136) C dL_does_136 ?_
  refine r_bipush (pc := 137) C (v := 10) dL_does_137 (by decide) ?_
  refine r_icmp_ne (pc := 139) C (tgt := 151) dL_does_139 (by decide) (fun h => absurd rfl h) (fun _ => ?_)
  refine r_aload0 (pc := 142) C dL_does_142 ?_
  refine r_iload2 (pc := 143) C dL_does_143 ?_
  refine r_iload3 (pc := 144) C dL_does_144 ?_
  refine r_callVI (pc := 145) C hM ml_RL_43 im_X5_scale se_X5_scale ini_X5_scale cd_X5_scale hd_RL_43 (hT.f (k := 0) (by decide)) rfl rfl rfl rfl (Nat.le_of_ble_eq_true rfl) ⟨rfl, rfl⟩ (by decide) (by decide) dL_does_145 (fun E ce q9 H1 locs1 ls hx hP hD hS hl h1 h2 h3 => ?_) ?_
  · rcases hE E hx with rfl | rfl | rfl
    · refine r_catch (name := sIOB) C hNC [] [⟨0, 186, 192, 57⟩, ⟨0, 186, 197, 59⟩] ⟨0, 186, 187, 55⟩ rfl (fun z hz => by cases hz) (by decide) (by decide) kl_RL_55 xn_IOB hP hD hS hl h1 h2 h3 ?_
      refine r_astore4 (pc := 187) C dL_does_187 ?_
      refine r_bipush (pc := 189) C (v := (-70)) dL_does_189 (by decide) ?_
      exact r_iret C rfl dL_does_191 (Or.inr ⟨rfl, rfl, _, hx⟩) (by decide) (by decide)
    · refine r_catch (name := sIAE) C hNC [⟨0, 186, 187, 55⟩] [⟨0, 186, 197, 59⟩] ⟨0, 186, 192, 57⟩ rfl (fun z hz => by rw [List.mem_singleton.mp hz]; exact (Or.inr ⟨by decide, sIOB, kl_RL_55, by decide⟩)) (by decide) (by decide) kl_RL_57 xn_IAE hP hD hS hl h1 h2 h3 ?_
      refine r_astore4 (pc := 192) C dL_does_192 ?_
      refine r_bipush (pc := 194) C (v := (-70)) dL_does_194 (by decide) ?_
      exact r_iret C rfl dL_does_196 (Or.inr ⟨rfl, rfl, _, hx⟩) (by decide) (by decide)
    · refine r_catch (name := sISE) C hNC [⟨0, 186, 187, 55⟩, ⟨0, 186, 192, 57⟩] [] ⟨0, 186, 197, 59⟩ rfl (fun z hz => by
          rcases List.mem_cons.mp hz with q | q
          · rw [q]; exact (Or.inr ⟨by decide, sIOB, kl_RL_55, by decide⟩)
          · rw [List.mem_singleton.mp q]; exact (Or.inr ⟨by decide, sIAE, kl_RL_57, by decide⟩)) (by decide) (by decide) kl_RL_59 xn_ISE hP hD hS hl h1 h2 h3 ?_
      refine r_astore4 (pc := 197) C dL_does_197 ?_
      refine r_bipush (pc := 199) C (v := (-70)) dL_does_199 (by decide) ?_
      exact r_iret C rfl dL_does_201 (Or.inr ⟨rfl, rfl, _, hx⟩) (by decide) (by decide)
  · intro v S1 hps
    refine r_goto (pc := 148) C (tgt := 186) dL_does_148 (by decide) ?_
    exact r_iret C rfl dL_does_186 (Or.inl hps) (by decide) (by decide)
set_option maxRecDepth 100000 in
set_option maxHeartbeats 1000000 in
theorem c_L_does_11 (l : Launch) (D : Gt) (T : List Nat) (ad : Nat → Nat) (σ : Mm) {nr ng : Nat} (hT : TG nr ng T) (x2 x3 : Int32) {pst : Int32 → St → Prop} {ex : String → Prop} (hM : KI D l yX5_look (uws yX5_look cX5_look 5 (some .int)) (RM 9 40 400) [.ref (ad 0), .int x2, .int x3] (T, ad, cO D ad σ) pst ex 40 400) (hE : ∀ E, ex E → E = sIOB ∨ E = sIAE ∨ E = sISE) : KW D l yL_does (uwsW yL_does cL_does 5 (some .int) [(0, 186, 187, 55), (0, 186, 192, 57), (0, 186, 197, 59)]) (RM 10 40 400) [.ref (ad 0), .int 11, .int x2, .int x3] (T, ad, cO D ad σ) (fun r S1 => (pst r S1) ∨ (r = -70 ∧ S1 = (T, ad, cO D ad σ) ∧ ∃ E, ex E)) 40 400 := by
  refine KW_of (own := RL) (L0 := [some (.ref (ad 0)), some (.int 11), some (.int x2), some (.int x3), none]) (by decide +kernel) rfl (catc rfl (catc rfl (catc rfl (catc rfl cat0)))) (Nat.le_of_ble_eq_true rfl) rfl ?_
  intro p e s m args below meth c A C hNC
  refine r_iload1 (pc := 0) C dL_does_0 ?_
  refine r_if_ne (pc := 1) C (tgt := 12) dL_does_1 (by decide) (fun _ => ?_) (fun h => absurd h (by decide))
  refine r_iload1 (pc := 12) C dL_does_12 ?_
  refine r_iconst (pc := 13) C (v := 1) dL_does_13 (by decide) ?_
  refine r_icmp_ne (pc := 14) C (tgt := 26) dL_does_14 (by decide) (fun _ => ?_) (fun h => absurd h (by decide))
  refine r_iload1 (pc := 26) C dL_does_26 ?_
  refine r_iconst (pc := 27) C (v := 2) dL_does_27 (by decide) ?_
  refine r_icmp_ne (pc := 28) C (tgt := 40) dL_does_28 (by decide) (fun _ => ?_) (fun h => absurd h (by decide))
  refine r_iload1 (pc := 40) C dL_does_40 ?_
  refine r_iconst (pc := 41) C (v := 3) dL_does_41 (by decide) ?_
  refine r_icmp_ne (pc := 42) C (tgt := 53) dL_does_42 (by decide) (fun _ => ?_) (fun h => absurd h (by decide))
  refine r_iload1 (pc := 53) C dL_does_53 ?_
  refine r_iconst (pc := 54) C (v := 4) dL_does_54 (by decide) ?_
  refine r_icmp_ne (pc := 55) C (tgt := 67) dL_does_55 (by decide) (fun _ => ?_) (fun h => absurd h (by decide))
  refine r_iload1 (pc := 67) C dL_does_67 ?_
  refine r_iconst (pc := 68) C (v := 5) dL_does_68 (by decide) ?_
  refine r_icmp_ne (pc := 69) C (tgt := 79) dL_does_69 (by decide) (fun _ => ?_) (fun h => absurd h (by decide))
  refine r_iload1 (pc := 79) C dL_does_79 ?_
  refine r_bipush (pc := 80) C (v := 6) dL_does_80 (by decide) ?_
  refine r_icmp_ne (pc := 82) C (tgt := 93) dL_does_82 (by decide) (fun _ => ?_) (fun h => absurd h (by decide))
  refine r_iload1 (pc := 93) C dL_does_93 ?_
  refine r_bipush (pc := 94) C (v := 7) dL_does_94 (by decide) ?_
  refine r_icmp_ne (pc := 96) C (tgt := 107) dL_does_96 (by decide) (fun _ => ?_) (fun h => absurd h (by decide))
  refine r_iload1 (pc := 107) C dL_does_107 ?_
  refine r_bipush (pc := 108) C (v := 8) dL_does_108 (by decide) ?_
  refine r_icmp_ne (pc := 110) C (tgt := 121) dL_does_110 (by decide) (fun _ => ?_) (fun h => absurd h (by decide))
  refine r_iload1 (pc := 121) C dL_does_121 ?_
  refine r_bipush (pc := 122) C (v := 9) dL_does_122 (by decide) ?_
  refine r_icmp_ne (pc := 124) C (tgt := 136) dL_does_124 (by decide) (fun _ => ?_) (fun h => absurd h (by decide))
  refine r_iload1 (pc := 136) C dL_does_136 ?_
  refine r_bipush (pc := 137) C (v := 10) dL_does_137 (by decide) ?_
  refine r_icmp_ne (pc := 139) C (tgt := 151) dL_does_139 (by decide) (fun _ => ?_) (fun h => absurd h (by decide))
  refine r_iload1 (pc := 151) C dL_does_151 ?_
  refine r_bipush (pc := 152) C (v := 11) dL_does_152 (by decide) ?_
  refine r_icmp_ne (pc := 154) C (tgt := 166) dL_does_154 (by decide) (fun h => absurd rfl h) (fun _ => ?_)
  refine r_aload0 (pc := 157) C dL_does_157 ?_
  refine r_iload2 (pc := 158) C dL_does_158 ?_
  refine r_iload3 (pc := 159) C dL_does_159 ?_
  refine r_callVI (pc := 160) C hM ml_RL_46 im_X5_look se_X5_look ini_X5_look cd_X5_look hd_RL_46 (hT.f (k := 0) (by decide)) rfl rfl rfl rfl (Nat.le_of_ble_eq_true rfl) ⟨rfl, rfl⟩ (by decide) (by decide) dL_does_160 (fun E ce q9 H1 locs1 ls hx hP hD hS hl h1 h2 h3 => ?_) ?_
  · rcases hE E hx with rfl | rfl | rfl
    · refine r_catch (name := sIOB) C hNC [] [⟨0, 186, 192, 57⟩, ⟨0, 186, 197, 59⟩] ⟨0, 186, 187, 55⟩ rfl (fun z hz => by cases hz) (by decide) (by decide) kl_RL_55 xn_IOB hP hD hS hl h1 h2 h3 ?_
      refine r_astore4 (pc := 187) C dL_does_187 ?_
      refine r_bipush (pc := 189) C (v := (-70)) dL_does_189 (by decide) ?_
      exact r_iret C rfl dL_does_191 (Or.inr ⟨rfl, rfl, _, hx⟩) (by decide) (by decide)
    · refine r_catch (name := sIAE) C hNC [⟨0, 186, 187, 55⟩] [⟨0, 186, 197, 59⟩] ⟨0, 186, 192, 57⟩ rfl (fun z hz => by rw [List.mem_singleton.mp hz]; exact (Or.inr ⟨by decide, sIOB, kl_RL_55, by decide⟩)) (by decide) (by decide) kl_RL_57 xn_IAE hP hD hS hl h1 h2 h3 ?_
      refine r_astore4 (pc := 192) C dL_does_192 ?_
      refine r_bipush (pc := 194) C (v := (-70)) dL_does_194 (by decide) ?_
      exact r_iret C rfl dL_does_196 (Or.inr ⟨rfl, rfl, _, hx⟩) (by decide) (by decide)
    · refine r_catch (name := sISE) C hNC [⟨0, 186, 187, 55⟩, ⟨0, 186, 192, 57⟩] [] ⟨0, 186, 197, 59⟩ rfl (fun z hz => by
          rcases List.mem_cons.mp hz with q | q
          · rw [q]; exact (Or.inr ⟨by decide, sIOB, kl_RL_55, by decide⟩)
          · rw [List.mem_singleton.mp q]; exact (Or.inr ⟨by decide, sIAE, kl_RL_57, by decide⟩)) (by decide) (by decide) kl_RL_59 xn_ISE hP hD hS hl h1 h2 h3 ?_
      refine r_astore4 (pc := 197) C dL_does_197 ?_
      refine r_bipush (pc := 199) C (v := (-70)) dL_does_199 (by decide) ?_
      exact r_iret C rfl dL_does_201 (Or.inr ⟨rfl, rfl, _, hx⟩) (by decide) (by decide)
  · intro v S1 hps
    refine r_goto (pc := 163) C (tgt := 186) dL_does_163 (by decide) ?_
    exact r_iret C rfl dL_does_186 (Or.inl hps) (by decide) (by decide)
set_option maxRecDepth 100000 in
set_option maxHeartbeats 1000000 in
theorem c_L_does_12 (l : Launch) (D : Gt) (T : List Nat) (ad : Nat → Nat) (σ : Mm) {nr ng : Nat} (hT : TG nr ng T) (x2 x3 : Int32) {pst : Int32 → St → Prop} {ex : String → Prop} (hM : KI D l yX5_paper (uws yX5_paper cX5_paper 5 (some .int)) (RM 9 40 400) [.ref (ad 0), .int x2, .int x3] (T, ad, cO D ad σ) pst ex 40 400) (hE : ∀ E, ex E → E = sIOB ∨ E = sIAE ∨ E = sISE) : KW D l yL_does (uwsW yL_does cL_does 5 (some .int) [(0, 186, 187, 55), (0, 186, 192, 57), (0, 186, 197, 59)]) (RM 10 40 400) [.ref (ad 0), .int 12, .int x2, .int x3] (T, ad, cO D ad σ) (fun r S1 => (pst r S1) ∨ (r = -70 ∧ S1 = (T, ad, cO D ad σ) ∧ ∃ E, ex E)) 40 400 := by
  refine KW_of (own := RL) (L0 := [some (.ref (ad 0)), some (.int 12), some (.int x2), some (.int x3), none]) (by decide +kernel) rfl (catc rfl (catc rfl (catc rfl (catc rfl cat0)))) (Nat.le_of_ble_eq_true rfl) rfl ?_
  intro p e s m args below meth c A C hNC
  refine r_iload1 (pc := 0) C dL_does_0 ?_
  refine r_if_ne (pc := 1) C (tgt := 12) dL_does_1 (by decide) (fun _ => ?_) (fun h => absurd h (by decide))
  refine r_iload1 (pc := 12) C dL_does_12 ?_
  refine r_iconst (pc := 13) C (v := 1) dL_does_13 (by decide) ?_
  refine r_icmp_ne (pc := 14) C (tgt := 26) dL_does_14 (by decide) (fun _ => ?_) (fun h => absurd h (by decide))
  refine r_iload1 (pc := 26) C dL_does_26 ?_
  refine r_iconst (pc := 27) C (v := 2) dL_does_27 (by decide) ?_
  refine r_icmp_ne (pc := 28) C (tgt := 40) dL_does_28 (by decide) (fun _ => ?_) (fun h => absurd h (by decide))
  refine r_iload1 (pc := 40) C dL_does_40 ?_
  refine r_iconst (pc := 41) C (v := 3) dL_does_41 (by decide) ?_
  refine r_icmp_ne (pc := 42) C (tgt := 53) dL_does_42 (by decide) (fun _ => ?_) (fun h => absurd h (by decide))
  refine r_iload1 (pc := 53) C dL_does_53 ?_
  refine r_iconst (pc := 54) C (v := 4) dL_does_54 (by decide) ?_
  refine r_icmp_ne (pc := 55) C (tgt := 67) dL_does_55 (by decide) (fun _ => ?_) (fun h => absurd h (by decide))
  refine r_iload1 (pc := 67) C dL_does_67 ?_
  refine r_iconst (pc := 68) C (v := 5) dL_does_68 (by decide) ?_
  refine r_icmp_ne (pc := 69) C (tgt := 79) dL_does_69 (by decide) (fun _ => ?_) (fun h => absurd h (by decide))
  refine r_iload1 (pc := 79) C dL_does_79 ?_
  refine r_bipush (pc := 80) C (v := 6) dL_does_80 (by decide) ?_
  refine r_icmp_ne (pc := 82) C (tgt := 93) dL_does_82 (by decide) (fun _ => ?_) (fun h => absurd h (by decide))
  refine r_iload1 (pc := 93) C dL_does_93 ?_
  refine r_bipush (pc := 94) C (v := 7) dL_does_94 (by decide) ?_
  refine r_icmp_ne (pc := 96) C (tgt := 107) dL_does_96 (by decide) (fun _ => ?_) (fun h => absurd h (by decide))
  refine r_iload1 (pc := 107) C dL_does_107 ?_
  refine r_bipush (pc := 108) C (v := 8) dL_does_108 (by decide) ?_
  refine r_icmp_ne (pc := 110) C (tgt := 121) dL_does_110 (by decide) (fun _ => ?_) (fun h => absurd h (by decide))
  refine r_iload1 (pc := 121) C dL_does_121 ?_
  refine r_bipush (pc := 122) C (v := 9) dL_does_122 (by decide) ?_
  refine r_icmp_ne (pc := 124) C (tgt := 136) dL_does_124 (by decide) (fun _ => ?_) (fun h => absurd h (by decide))
  refine r_iload1 (pc := 136) C dL_does_136 ?_
  refine r_bipush (pc := 137) C (v := 10) dL_does_137 (by decide) ?_
  refine r_icmp_ne (pc := 139) C (tgt := 151) dL_does_139 (by decide) (fun _ => ?_) (fun h => absurd h (by decide))
  refine r_iload1 (pc := 151) C dL_does_151 ?_
  refine r_bipush (pc := 152) C (v := 11) dL_does_152 (by decide) ?_
  refine r_icmp_ne (pc := 154) C (tgt := 166) dL_does_154 (by decide) (fun _ => ?_) (fun h => absurd h (by decide))
  refine r_iload1 (pc := 166) C dL_does_166 ?_
  refine r_bipush (pc := 167) C (v := 12) dL_does_167 (by decide) ?_
  refine r_icmp_ne (pc := 169) C (tgt := 181) dL_does_169 (by decide) (fun h => absurd rfl h) (fun _ => ?_)
  refine r_aload0 (pc := 172) C dL_does_172 ?_
  refine r_iload2 (pc := 173) C dL_does_173 ?_
  refine r_iload3 (pc := 174) C dL_does_174 ?_
  refine r_callVI (pc := 175) C hM ml_RL_49 im_X5_paper se_X5_paper ini_X5_paper cd_X5_paper hd_RL_49 (hT.f (k := 0) (by decide)) rfl rfl rfl rfl (Nat.le_of_ble_eq_true rfl) ⟨rfl, rfl⟩ (by decide) (by decide) dL_does_175 (fun E ce q9 H1 locs1 ls hx hP hD hS hl h1 h2 h3 => ?_) ?_
  · rcases hE E hx with rfl | rfl | rfl
    · refine r_catch (name := sIOB) C hNC [] [⟨0, 186, 192, 57⟩, ⟨0, 186, 197, 59⟩] ⟨0, 186, 187, 55⟩ rfl (fun z hz => by cases hz) (by decide) (by decide) kl_RL_55 xn_IOB hP hD hS hl h1 h2 h3 ?_
      refine r_astore4 (pc := 187) C dL_does_187 ?_
      refine r_bipush (pc := 189) C (v := (-70)) dL_does_189 (by decide) ?_
      exact r_iret C rfl dL_does_191 (Or.inr ⟨rfl, rfl, _, hx⟩) (by decide) (by decide)
    · refine r_catch (name := sIAE) C hNC [⟨0, 186, 187, 55⟩] [⟨0, 186, 197, 59⟩] ⟨0, 186, 192, 57⟩ rfl (fun z hz => by rw [List.mem_singleton.mp hz]; exact (Or.inr ⟨by decide, sIOB, kl_RL_55, by decide⟩)) (by decide) (by decide) kl_RL_57 xn_IAE hP hD hS hl h1 h2 h3 ?_
      refine r_astore4 (pc := 192) C dL_does_192 ?_
      refine r_bipush (pc := 194) C (v := (-70)) dL_does_194 (by decide) ?_
      exact r_iret C rfl dL_does_196 (Or.inr ⟨rfl, rfl, _, hx⟩) (by decide) (by decide)
    · refine r_catch (name := sISE) C hNC [⟨0, 186, 187, 55⟩, ⟨0, 186, 192, 57⟩] [] ⟨0, 186, 197, 59⟩ rfl (fun z hz => by
          rcases List.mem_cons.mp hz with q | q
          · rw [q]; exact (Or.inr ⟨by decide, sIOB, kl_RL_55, by decide⟩)
          · rw [List.mem_singleton.mp q]; exact (Or.inr ⟨by decide, sIAE, kl_RL_57, by decide⟩)) (by decide) (by decide) kl_RL_59 xn_ISE hP hD hS hl h1 h2 h3 ?_
      refine r_astore4 (pc := 197) C dL_does_197 ?_
      refine r_bipush (pc := 199) C (v := (-70)) dL_does_199 (by decide) ?_
      exact r_iret C rfl dL_does_201 (Or.inr ⟨rfl, rfl, _, hx⟩) (by decide) (by decide)
  · intro v S1 hps
    refine r_goto (pc := 178) C (tgt := 186) dL_does_178 (by decide) ?_
    exact r_iret C rfl dL_does_186 (Or.inl hps) (by decide) (by decide)
set_option maxRecDepth 100000 in
set_option maxHeartbeats 1000000 in
theorem c_L_does_13 (l : Launch) (D : Gt) (T : List Nat) (ad : Nat → Nat) (σ : Mm) {nr ng : Nat} (hT : TG nr ng T) (x2 x3 : Int32) {pst : Int32 → St → Prop} {ex : String → Prop} (hM : KI D l yX5_all (uws yX5_all cX5_all 2 (some .int)) (RM 9 2 12) [.ref (ad 0), .int x2] (T, ad, cO D ad σ) pst ex 2 12) (hE : ∀ E, ex E → E = sIOB ∨ E = sIAE ∨ E = sISE) : KW D l yL_does (uwsW yL_does cL_does 5 (some .int) [(0, 186, 187, 55), (0, 186, 192, 57), (0, 186, 197, 59)]) (RM 10 2 12) [.ref (ad 0), .int 13, .int x2, .int x3] (T, ad, cO D ad σ) (fun r S1 => (pst r S1) ∨ (r = -70 ∧ S1 = (T, ad, cO D ad σ) ∧ ∃ E, ex E)) 2 12 := by
  refine KW_of (own := RL) (L0 := [some (.ref (ad 0)), some (.int 13), some (.int x2), some (.int x3), none]) (by decide +kernel) rfl (catc rfl (catc rfl (catc rfl (catc rfl cat0)))) (Nat.le_of_ble_eq_true rfl) rfl ?_
  intro p e s m args below meth c A C hNC
  refine r_iload1 (pc := 0) C dL_does_0 ?_
  refine r_if_ne (pc := 1) C (tgt := 12) dL_does_1 (by decide) (fun _ => ?_) (fun h => absurd h (by decide))
  refine r_iload1 (pc := 12) C dL_does_12 ?_
  refine r_iconst (pc := 13) C (v := 1) dL_does_13 (by decide) ?_
  refine r_icmp_ne (pc := 14) C (tgt := 26) dL_does_14 (by decide) (fun _ => ?_) (fun h => absurd h (by decide))
  refine r_iload1 (pc := 26) C dL_does_26 ?_
  refine r_iconst (pc := 27) C (v := 2) dL_does_27 (by decide) ?_
  refine r_icmp_ne (pc := 28) C (tgt := 40) dL_does_28 (by decide) (fun _ => ?_) (fun h => absurd h (by decide))
  refine r_iload1 (pc := 40) C dL_does_40 ?_
  refine r_iconst (pc := 41) C (v := 3) dL_does_41 (by decide) ?_
  refine r_icmp_ne (pc := 42) C (tgt := 53) dL_does_42 (by decide) (fun _ => ?_) (fun h => absurd h (by decide))
  refine r_iload1 (pc := 53) C dL_does_53 ?_
  refine r_iconst (pc := 54) C (v := 4) dL_does_54 (by decide) ?_
  refine r_icmp_ne (pc := 55) C (tgt := 67) dL_does_55 (by decide) (fun _ => ?_) (fun h => absurd h (by decide))
  refine r_iload1 (pc := 67) C dL_does_67 ?_
  refine r_iconst (pc := 68) C (v := 5) dL_does_68 (by decide) ?_
  refine r_icmp_ne (pc := 69) C (tgt := 79) dL_does_69 (by decide) (fun _ => ?_) (fun h => absurd h (by decide))
  refine r_iload1 (pc := 79) C dL_does_79 ?_
  refine r_bipush (pc := 80) C (v := 6) dL_does_80 (by decide) ?_
  refine r_icmp_ne (pc := 82) C (tgt := 93) dL_does_82 (by decide) (fun _ => ?_) (fun h => absurd h (by decide))
  refine r_iload1 (pc := 93) C dL_does_93 ?_
  refine r_bipush (pc := 94) C (v := 7) dL_does_94 (by decide) ?_
  refine r_icmp_ne (pc := 96) C (tgt := 107) dL_does_96 (by decide) (fun _ => ?_) (fun h => absurd h (by decide))
  refine r_iload1 (pc := 107) C dL_does_107 ?_
  refine r_bipush (pc := 108) C (v := 8) dL_does_108 (by decide) ?_
  refine r_icmp_ne (pc := 110) C (tgt := 121) dL_does_110 (by decide) (fun _ => ?_) (fun h => absurd h (by decide))
  refine r_iload1 (pc := 121) C dL_does_121 ?_
  refine r_bipush (pc := 122) C (v := 9) dL_does_122 (by decide) ?_
  refine r_icmp_ne (pc := 124) C (tgt := 136) dL_does_124 (by decide) (fun _ => ?_) (fun h => absurd h (by decide))
  refine r_iload1 (pc := 136) C dL_does_136 ?_
  refine r_bipush (pc := 137) C (v := 10) dL_does_137 (by decide) ?_
  refine r_icmp_ne (pc := 139) C (tgt := 151) dL_does_139 (by decide) (fun _ => ?_) (fun h => absurd h (by decide))
  refine r_iload1 (pc := 151) C dL_does_151 ?_
  refine r_bipush (pc := 152) C (v := 11) dL_does_152 (by decide) ?_
  refine r_icmp_ne (pc := 154) C (tgt := 166) dL_does_154 (by decide) (fun _ => ?_) (fun h => absurd h (by decide))
  refine r_iload1 (pc := 166) C dL_does_166 ?_
  refine r_bipush (pc := 167) C (v := 12) dL_does_167 (by decide) ?_
  refine r_icmp_ne (pc := 169) C (tgt := 181) dL_does_169 (by decide) (fun _ => ?_) (fun h => absurd h (by decide))
  refine r_aload0 (pc := 181) C dL_does_181 ?_
  refine r_iload2 (pc := 182) C dL_does_182 ?_
  refine r_callVI (pc := 183) C hM ml_RL_52 im_X5_all se_X5_all ini_X5_all cd_X5_all hd_RL_52 (hT.f (k := 0) (by decide)) rfl rfl rfl rfl (Nat.le_of_ble_eq_true rfl) ⟨rfl, rfl⟩ (by decide) (by decide) dL_does_183 (fun E ce q9 H1 locs1 ls hx hP hD hS hl h1 h2 h3 => ?_) ?_
  · rcases hE E hx with rfl | rfl | rfl
    · refine r_catch (name := sIOB) C hNC [] [⟨0, 186, 192, 57⟩, ⟨0, 186, 197, 59⟩] ⟨0, 186, 187, 55⟩ rfl (fun z hz => by cases hz) (by decide) (by decide) kl_RL_55 xn_IOB hP hD hS hl h1 h2 h3 ?_
      refine r_astore4 (pc := 187) C dL_does_187 ?_
      refine r_bipush (pc := 189) C (v := (-70)) dL_does_189 (by decide) ?_
      exact r_iret C rfl dL_does_191 (Or.inr ⟨rfl, rfl, _, hx⟩) (by decide) (by decide)
    · refine r_catch (name := sIAE) C hNC [⟨0, 186, 187, 55⟩] [⟨0, 186, 197, 59⟩] ⟨0, 186, 192, 57⟩ rfl (fun z hz => by rw [List.mem_singleton.mp hz]; exact (Or.inr ⟨by decide, sIOB, kl_RL_55, by decide⟩)) (by decide) (by decide) kl_RL_57 xn_IAE hP hD hS hl h1 h2 h3 ?_
      refine r_astore4 (pc := 192) C dL_does_192 ?_
      refine r_bipush (pc := 194) C (v := (-70)) dL_does_194 (by decide) ?_
      exact r_iret C rfl dL_does_196 (Or.inr ⟨rfl, rfl, _, hx⟩) (by decide) (by decide)
    · refine r_catch (name := sISE) C hNC [⟨0, 186, 187, 55⟩, ⟨0, 186, 192, 57⟩] [] ⟨0, 186, 197, 59⟩ rfl (fun z hz => by
          rcases List.mem_cons.mp hz with q | q
          · rw [q]; exact (Or.inr ⟨by decide, sIOB, kl_RL_55, by decide⟩)
          · rw [List.mem_singleton.mp q]; exact (Or.inr ⟨by decide, sIAE, kl_RL_57, by decide⟩)) (by decide) (by decide) kl_RL_59 xn_ISE hP hD hS hl h1 h2 h3 ?_
      refine r_astore4 (pc := 197) C dL_does_197 ?_
      refine r_bipush (pc := 199) C (v := (-70)) dL_does_199 (by decide) ?_
      exact r_iret C rfl dL_does_201 (Or.inr ⟨rfl, rfl, _, hx⟩) (by decide) (by decide)
  · intro v S1 hps
    exact r_iret C rfl dL_does_186 (Or.inl hps) (by decide) (by decide)
set_option maxRecDepth 100000 in
set_option maxHeartbeats 1000000 in
theorem c_L_stone (l : Launch) (D : Gt) (T : List Nat) (ad : Nat → Nat) (σ : Mm) {nr ng : Nat} (hT : TG nr ng T) (x1 x2 x3 x4 x5 : Int32) {pst : Int32 → St → Prop} {ex : String → Prop} (hM : KI D l yX5_stone (uws yX5_stone cX5_stone 8 (some .int)) (RM 9 40 400) [.ref (ad 0), .int x1, .int x2, .int x3, .int x4, .int x5] (T, ad, cO D ad σ) pst ex 40 400) (hE : ∀ E, ex E → E = sIOB ∨ E = sIAE ∨ E = sISE) : KW D l yL_stone (uwsW yL_stone cL_stone 7 (some .int) [(0, 11, 12, 55), (0, 11, 17, 57), (0, 11, 22, 59)]) (RM 10 40 400) [.ref (ad 0), .int x1, .int x2, .int x3, .int x4, .int x5] (T, ad, cO D ad σ) (fun r S1 => (pst r S1) ∨ (r = -70 ∧ S1 = (T, ad, cO D ad σ) ∧ ∃ E, ex E)) 40 400 := by
  refine KW_of (own := RL) (L0 := [some (.ref (ad 0)), some (.int x1), some (.int x2), some (.int x3), some (.int x4), some (.int x5), none]) (by decide +kernel) rfl (catc rfl (catc rfl (catc rfl (catc rfl (catc rfl (catc rfl cat0)))))) (Nat.le_of_ble_eq_true rfl) rfl ?_
  intro p e s m args below meth c A C hNC
  refine r_aload0 (pc := 0) C dL_stone_0 ?_
  refine r_iload1 (pc := 1) C dL_stone_1 ?_
  refine r_iload2 (pc := 2) C dL_stone_2 ?_
  refine r_iload3 (pc := 3) C dL_stone_3 ?_
  refine r_iload4 (pc := 4) C dL_stone_4 ?_
  refine r_iload5 (pc := 6) C dL_stone_6 ?_
  refine r_callVI (pc := 8) C hM ml_RL_61 im_X5_stone se_X5_stone ini_X5_stone cd_X5_stone hd_RL_61 (hT.f (k := 0) (by decide)) rfl rfl rfl rfl (Nat.le_of_ble_eq_true rfl) ⟨rfl, rfl⟩ (by decide) (by decide) dL_stone_8 (fun E ce q9 H1 locs1 ls hx hP hD hS hl h1 h2 h3 => ?_) ?_
  · rcases hE E hx with rfl | rfl | rfl
    · refine r_catch (name := sIOB) C hNC [] [⟨0, 11, 17, 57⟩, ⟨0, 11, 22, 59⟩] ⟨0, 11, 12, 55⟩ rfl (fun z hz => by cases hz) (by decide) (by decide) kl_RL_55 xn_IOB hP hD hS hl h1 h2 h3 ?_
      refine r_astore6 (pc := 12) C dL_stone_12 ?_
      refine r_bipush (pc := 14) C (v := (-70)) dL_stone_14 (by decide) ?_
      exact r_iret C rfl dL_stone_16 (Or.inr ⟨rfl, rfl, _, hx⟩) (by decide) (by decide)
    · refine r_catch (name := sIAE) C hNC [⟨0, 11, 12, 55⟩] [⟨0, 11, 22, 59⟩] ⟨0, 11, 17, 57⟩ rfl (fun z hz => by rw [List.mem_singleton.mp hz]; exact (Or.inr ⟨by decide, sIOB, kl_RL_55, by decide⟩)) (by decide) (by decide) kl_RL_57 xn_IAE hP hD hS hl h1 h2 h3 ?_
      refine r_astore6 (pc := 17) C dL_stone_17 ?_
      refine r_bipush (pc := 19) C (v := (-70)) dL_stone_19 (by decide) ?_
      exact r_iret C rfl dL_stone_21 (Or.inr ⟨rfl, rfl, _, hx⟩) (by decide) (by decide)
    · refine r_catch (name := sISE) C hNC [⟨0, 11, 12, 55⟩, ⟨0, 11, 17, 57⟩] [] ⟨0, 11, 22, 59⟩ rfl (fun z hz => by
          rcases List.mem_cons.mp hz with q | q
          · rw [q]; exact (Or.inr ⟨by decide, sIOB, kl_RL_55, by decide⟩)
          · rw [List.mem_singleton.mp q]; exact (Or.inr ⟨by decide, sIAE, kl_RL_57, by decide⟩)) (by decide) (by decide) kl_RL_59 xn_ISE hP hD hS hl h1 h2 h3 ?_
      refine r_astore6 (pc := 22) C dL_stone_22 ?_
      refine r_bipush (pc := 24) C (v := (-70)) dL_stone_24 (by decide) ?_
      exact r_iret C rfl dL_stone_26 (Or.inr ⟨rfl, rfl, _, hx⟩) (by decide) (by decide)
  · intro v S1 hps
    exact r_iret C rfl dL_stone_11 (Or.inl hps) (by decide) (by decide)
set_option maxRecDepth 100000 in
set_option maxHeartbeats 1000000 in
theorem c_L_price (l : Launch) (D : Gt) (T : List Nat) (ad : Nat → Nat) (σ : Mm) {nr ng : Nat} (hT : TG nr ng T) (x1 x2 x3 : Int32) {pst : Int32 → St → Prop} {ex : String → Prop} (hM : KI D l yX5_price (uws yX5_price cX5_price 5 (some .int)) (RM 9 40 400) [.ref (ad 0), .int x1, .int x2, .int x3] (T, ad, cO D ad σ) pst ex 40 400) (hE : ∀ E, ex E → E = sIOB ∨ E = sIAE) : KW D l yL_price (uwsW yL_price cL_price 5 (some .int) [(0, 7, 8, 55), (0, 7, 13, 57)]) (RM 10 40 400) [.ref (ad 0), .int x1, .int x2, .int x3] (T, ad, cO D ad σ) (fun r S1 => (pst r S1) ∨ (r = -70 ∧ S1 = (T, ad, cO D ad σ) ∧ ∃ E, ex E)) 40 400 := by
  refine KW_of (own := RL) (L0 := [some (.ref (ad 0)), some (.int x1), some (.int x2), some (.int x3), none]) (by decide +kernel) rfl (catc rfl (catc rfl (catc rfl (catc rfl cat0)))) (Nat.le_of_ble_eq_true rfl) rfl ?_
  intro p e s m args below meth c A C hNC
  refine r_aload0 (pc := 0) C dL_price_0 ?_
  refine r_iload1 (pc := 1) C dL_price_1 ?_
  refine r_iload2 (pc := 2) C dL_price_2 ?_
  refine r_iload3 (pc := 3) C dL_price_3 ?_
  refine r_callVI (pc := 4) C hM ml_RL_65 im_X5_price se_X5_price ini_X5_price cd_X5_price hd_RL_65 (hT.f (k := 0) (by decide)) rfl rfl rfl rfl (Nat.le_of_ble_eq_true rfl) ⟨rfl, rfl⟩ (by decide) (by decide) dL_price_4 (fun E ce q9 H1 locs1 ls hx hP hD hS hl h1 h2 h3 => ?_) ?_
  · rcases hE E hx with rfl | rfl
    · refine r_catch (name := sIOB) C hNC [] [⟨0, 7, 13, 57⟩] ⟨0, 7, 8, 55⟩ rfl (fun z hz => by cases hz) (by decide) (by decide) kl_RL_55 xn_IOB hP hD hS hl h1 h2 h3 ?_
      refine r_astore4 (pc := 8) C dL_price_8 ?_
      refine r_bipush (pc := 10) C (v := (-70)) dL_price_10 (by decide) ?_
      exact r_iret C rfl dL_price_12 (Or.inr ⟨rfl, rfl, _, hx⟩) (by decide) (by decide)
    · refine r_catch (name := sIAE) C hNC [⟨0, 7, 8, 55⟩] [] ⟨0, 7, 13, 57⟩ rfl (fun z hz => by rw [List.mem_singleton.mp hz]; exact (Or.inr ⟨by decide, sIOB, kl_RL_55, by decide⟩)) (by decide) (by decide) kl_RL_57 xn_IAE hP hD hS hl h1 h2 h3 ?_
      refine r_astore4 (pc := 13) C dL_price_13 ?_
      refine r_bipush (pc := 15) C (v := (-70)) dL_price_15 (by decide) ?_
      exact r_iret C rfl dL_price_17 (Or.inr ⟨rfl, rfl, _, hx⟩) (by decide) (by decide)
  · intro v S1 hps
    exact r_iret C rfl dL_price_7 (Or.inl hps) (by decide) (by decide)
set_option maxRecDepth 100000 in
set_option maxHeartbeats 1000000 in
theorem c_L_take (l : Launch) (D : Gt) (T : List Nat) (ad : Nat → Nat) (σ : Mm) {nr ng : Nat} (hT : TG nr ng T) (x1 x2 : Int32) {pst : Int32 → St → Prop} {ex : String → Prop} (hM : KI D l yX5_take (uws yX5_take cX5_take 8 (some .int)) (RM 9 40 400) [.ref (ad 0), .int x1, .int x2] (T, ad, cO D ad σ) pst ex 40 400) (hE : ∀ E, ex E → E = sIOB ∨ E = sISE) : KW D l yL_take (uwsW yL_take cL_take 4 (some .int) [(0, 6, 7, 55), (0, 6, 11, 59)]) (RM 10 40 400) [.ref (ad 0), .int x1, .int x2] (T, ad, cO D ad σ) (fun r S1 => (pst r S1) ∨ (r = -70 ∧ S1 = (T, ad, cO D ad σ) ∧ ∃ E, ex E)) 40 400 := by
  refine KW_of (own := RL) (L0 := [some (.ref (ad 0)), some (.int x1), some (.int x2), none]) (by decide +kernel) rfl (catc rfl (catc rfl (catc rfl cat0))) (Nat.le_of_ble_eq_true rfl) rfl ?_
  intro p e s m args below meth c A C hNC
  refine r_aload0 (pc := 0) C dL_take_0 ?_
  refine r_iload1 (pc := 1) C dL_take_1 ?_
  refine r_iload2 (pc := 2) C dL_take_2 ?_
  refine r_callVI (pc := 3) C hM ml_RL_69 im_X5_take se_X5_take ini_X5_take cd_X5_take hd_RL_69 (hT.f (k := 0) (by decide)) rfl rfl rfl rfl (Nat.le_of_ble_eq_true rfl) ⟨rfl, rfl⟩ (by decide) (by decide) dL_take_3 (fun E ce q9 H1 locs1 ls hx hP hD hS hl h1 h2 h3 => ?_) ?_
  · rcases hE E hx with rfl | rfl
    · refine r_catch (name := sIOB) C hNC [] [⟨0, 6, 11, 59⟩] ⟨0, 6, 7, 55⟩ rfl (fun z hz => by cases hz) (by decide) (by decide) kl_RL_55 xn_IOB hP hD hS hl h1 h2 h3 ?_
      refine r_astore3 (pc := 7) C dL_take_7 ?_
      refine r_bipush (pc := 8) C (v := (-70)) dL_take_8 (by decide) ?_
      exact r_iret C rfl dL_take_10 (Or.inr ⟨rfl, rfl, _, hx⟩) (by decide) (by decide)
    · refine r_catch (name := sISE) C hNC [⟨0, 6, 7, 55⟩] [] ⟨0, 6, 11, 59⟩ rfl (fun z hz => by rw [List.mem_singleton.mp hz]; exact (Or.inr ⟨by decide, sIOB, kl_RL_55, by decide⟩)) (by decide) (by decide) kl_RL_59 xn_ISE hP hD hS hl h1 h2 h3 ?_
      refine r_astore3 (pc := 11) C dL_take_11 ?_
      refine r_bipush (pc := 12) C (v := (-70)) dL_take_12 (by decide) ?_
      exact r_iret C rfl dL_take_14 (Or.inr ⟨rfl, rfl, _, hx⟩) (by decide) (by decide)
  · intro v S1 hps
    exact r_iret C rfl dL_take_6 (Or.inl hps) (by decide) (by decide)
set_option maxRecDepth 100000 in
set_option maxHeartbeats 1000000 in
theorem c_L_tenders (l : Launch) (D : Gt) (T : List Nat) (ad : Nat → Nat) (σ : Mm) {nr ng : Nat} (hT : TG nr ng T) (x1 x2 : Int32) {pst : St → Prop} {ex : String → Prop} (hM : KV D l yX5_tender (uws yX5_tender cX5_tender 4 none) (RM 9 40 400) [.ref (ad 0), .int x1, .int x2] (T, ad, cO D ad σ) pst ex 40 400) (hE : ∀ E, ex E → E = sIOB ∨ E = sIAE ∨ E = sISE) : KW D l yL_tenders (uwsW yL_tenders cL_tenders 4 (some .int) [(0, 7, 8, 55), (0, 7, 12, 57), (0, 7, 16, 59)]) (RM 10 40 400) [.ref (ad 0), .int x1, .int x2] (T, ad, cO D ad σ) (fun r S1 => (r = 1 ∧ pst S1) ∨ (r = -70 ∧ S1 = (T, ad, cO D ad σ) ∧ ∃ E, ex E)) 40 400 := by
  refine KW_of (own := RL) (L0 := [some (.ref (ad 0)), some (.int x1), some (.int x2), none]) (by decide +kernel) rfl (catc rfl (catc rfl (catc rfl cat0))) (Nat.le_of_ble_eq_true rfl) rfl ?_
  intro p e s m args below meth c A C hNC
  refine r_aload0 (pc := 0) C dL_tenders_0 ?_
  refine r_iload1 (pc := 1) C dL_tenders_1 ?_
  refine r_iload2 (pc := 2) C dL_tenders_2 ?_
  refine r_callVV (pc := 3) C hM ml_RL_73 im_X5_tender se_X5_tender ini_X5_tender cd_X5_tender hd_RL_73 (hT.f (k := 0) (by decide)) rfl rfl rfl rfl (Nat.le_of_ble_eq_true rfl) ⟨rfl, rfl⟩ (by decide) (by decide) dL_tenders_3 (fun E ce q9 H1 locs1 ls hx hP hD hS hl h1 h2 h3 => ?_) ?_
  · rcases hE E hx with rfl | rfl | rfl
    · refine r_catch (name := sIOB) C hNC [] [⟨0, 7, 12, 57⟩, ⟨0, 7, 16, 59⟩] ⟨0, 7, 8, 55⟩ rfl (fun z hz => by cases hz) (by decide) (by decide) kl_RL_55 xn_IOB hP hD hS hl h1 h2 h3 ?_
      refine r_astore3 (pc := 8) C dL_tenders_8 ?_
      refine r_bipush (pc := 9) C (v := (-70)) dL_tenders_9 (by decide) ?_
      exact r_iret C rfl dL_tenders_11 (Or.inr ⟨rfl, rfl, _, hx⟩) (by decide) (by decide)
    · refine r_catch (name := sIAE) C hNC [⟨0, 7, 8, 55⟩] [⟨0, 7, 16, 59⟩] ⟨0, 7, 12, 57⟩ rfl (fun z hz => by rw [List.mem_singleton.mp hz]; exact (Or.inr ⟨by decide, sIOB, kl_RL_55, by decide⟩)) (by decide) (by decide) kl_RL_57 xn_IAE hP hD hS hl h1 h2 h3 ?_
      refine r_astore3 (pc := 12) C dL_tenders_12 ?_
      refine r_bipush (pc := 13) C (v := (-70)) dL_tenders_13 (by decide) ?_
      exact r_iret C rfl dL_tenders_15 (Or.inr ⟨rfl, rfl, _, hx⟩) (by decide) (by decide)
    · refine r_catch (name := sISE) C hNC [⟨0, 7, 8, 55⟩, ⟨0, 7, 12, 57⟩] [] ⟨0, 7, 16, 59⟩ rfl (fun z hz => by
          rcases List.mem_cons.mp hz with q | q
          · rw [q]; exact (Or.inr ⟨by decide, sIOB, kl_RL_55, by decide⟩)
          · rw [List.mem_singleton.mp q]; exact (Or.inr ⟨by decide, sIAE, kl_RL_57, by decide⟩)) (by decide) (by decide) kl_RL_59 xn_ISE hP hD hS hl h1 h2 h3 ?_
      refine r_astore3 (pc := 16) C dL_tenders_16 ?_
      refine r_bipush (pc := 17) C (v := (-70)) dL_tenders_17 (by decide) ?_
      exact r_iret C rfl dL_tenders_19 (Or.inr ⟨rfl, rfl, _, hx⟩) (by decide) (by decide)
  · intro S1 hps
    refine r_iconst (pc := 6) C (v := 1) dL_tenders_6 (by decide) ?_
    exact r_iret C rfl dL_tenders_7 (Or.inl ⟨rfl, hps⟩) (by decide) (by decide)
set_option maxRecDepth 100000 in
set_option maxHeartbeats 1000000 in
theorem c_L_tells_0 (l : Launch) (D : Gt) (T : List Nat) (ad : Nat → Nat) (σ : Mm) {nr ng : Nat} (hT : TG nr ng T) (x2 x3 : Int32) {pst : Int32 → St → Prop} {ex : String → Prop} (hM : KI D l yX5_value (uws yX5_value cX5_value 2 (some .int)) (RM 9 2 12) [.ref (ad 0), .int x2] (T, ad, cO D ad σ) pst ex 2 12) (hE : ∀ E, ex E → E = sIOB ∨ E = sIAE) : KW D l yL_tells (uwsW yL_tells cL_tells 5 (some .int) [(0, 58, 59, 55), (0, 58, 64, 57)]) (RM 10 2 12) [.ref (ad 0), .int 0, .int x2, .int x3] (T, ad, cO D ad σ) (fun r S1 => (pst r S1) ∨ (r = -70 ∧ S1 = (T, ad, cO D ad σ) ∧ ∃ E, ex E)) 2 12 := by
  refine KW_of (own := RL) (L0 := [some (.ref (ad 0)), some (.int 0), some (.int x2), some (.int x3), none]) (by decide +kernel) rfl (catc rfl (catc rfl (catc rfl (catc rfl cat0)))) (Nat.le_of_ble_eq_true rfl) rfl ?_
  intro p e s m args below meth c A C hNC
  refine r_iload1 (pc := 0) C dL_tells_0 ?_
  refine r_if_ne (pc := 1) C (tgt := 12) dL_tells_1 (by decide) (fun h => absurd rfl h) (fun _ => ?_)
  refine r_aload0 (pc := 4) C dL_tells_4 ?_
  refine r_iload2 (pc := 5) C dL_tells_5 ?_
  refine r_callVI (pc := 6) C hM ml_RL_77 im_X5_value se_X5_value ini_X5_value cd_X5_value hd_RL_77 (hT.f (k := 0) (by decide)) rfl rfl rfl rfl (Nat.le_of_ble_eq_true rfl) ⟨rfl, rfl⟩ (by decide) (by decide) dL_tells_6 (fun E ce q9 H1 locs1 ls hx hP hD hS hl h1 h2 h3 => ?_) ?_
  · rcases hE E hx with rfl | rfl
    · refine r_catch (name := sIOB) C hNC [] [⟨0, 58, 64, 57⟩] ⟨0, 58, 59, 55⟩ rfl (fun z hz => by cases hz) (by decide) (by decide) kl_RL_55 xn_IOB hP hD hS hl h1 h2 h3 ?_
      refine r_astore4 (pc := 59) C dL_tells_59 ?_
      refine r_bipush (pc := 61) C (v := (-70)) dL_tells_61 (by decide) ?_
      exact r_iret C rfl dL_tells_63 (Or.inr ⟨rfl, rfl, _, hx⟩) (by decide) (by decide)
    · refine r_catch (name := sIAE) C hNC [⟨0, 58, 59, 55⟩] [] ⟨0, 58, 64, 57⟩ rfl (fun z hz => by rw [List.mem_singleton.mp hz]; exact (Or.inr ⟨by decide, sIOB, kl_RL_55, by decide⟩)) (by decide) (by decide) kl_RL_57 xn_IAE hP hD hS hl h1 h2 h3 ?_
      refine r_astore4 (pc := 64) C dL_tells_64 ?_
      refine r_bipush (pc := 66) C (v := (-70)) dL_tells_66 (by decide) ?_
      exact r_iret C rfl dL_tells_68 (Or.inr ⟨rfl, rfl, _, hx⟩) (by decide) (by decide)
  · intro v S1 hps
    refine r_goto (pc := 9) C (tgt := 58) dL_tells_9 (by decide) ?_
    exact r_iret C rfl dL_tells_58 (Or.inl hps) (by decide) (by decide)
set_option maxRecDepth 100000 in
set_option maxHeartbeats 1000000 in
theorem c_L_tells_1 (l : Launch) (D : Gt) (T : List Nat) (ad : Nat → Nat) (σ : Mm) {nr ng : Nat} (hT : TG nr ng T) (x2 x3 : Int32) {pst : Int32 → St → Prop} {ex : String → Prop} (hM : KI D l yX5_boxValue (uws yX5_boxValue cX5_boxValue 7 (some .int)) (RM 9 2 12) [.ref (ad 0), .int x2] (T, ad, cO D ad σ) pst ex 2 12) (hE : ∀ E, ex E → E = sIOB ∨ E = sIAE) : KW D l yL_tells (uwsW yL_tells cL_tells 5 (some .int) [(0, 58, 59, 55), (0, 58, 64, 57)]) (RM 10 2 12) [.ref (ad 0), .int 1, .int x2, .int x3] (T, ad, cO D ad σ) (fun r S1 => (pst r S1) ∨ (r = -70 ∧ S1 = (T, ad, cO D ad σ) ∧ ∃ E, ex E)) 2 12 := by
  refine KW_of (own := RL) (L0 := [some (.ref (ad 0)), some (.int 1), some (.int x2), some (.int x3), none]) (by decide +kernel) rfl (catc rfl (catc rfl (catc rfl (catc rfl cat0)))) (Nat.le_of_ble_eq_true rfl) rfl ?_
  intro p e s m args below meth c A C hNC
  refine r_iload1 (pc := 0) C dL_tells_0 ?_
  refine r_if_ne (pc := 1) C (tgt := 12) dL_tells_1 (by decide) (fun _ => ?_) (fun h => absurd h (by decide))
  refine r_iload1 (pc := 12) C dL_tells_12 ?_
  refine r_iconst (pc := 13) C (v := 1) dL_tells_13 (by decide) ?_
  refine r_icmp_ne (pc := 14) C (tgt := 25) dL_tells_14 (by decide) (fun h => absurd rfl h) (fun _ => ?_)
  refine r_aload0 (pc := 17) C dL_tells_17 ?_
  refine r_iload2 (pc := 18) C dL_tells_18 ?_
  refine r_callVI (pc := 19) C hM ml_RL_80 im_X5_boxValue se_X5_boxValue ini_X5_boxValue cd_X5_boxValue hd_RL_80 (hT.f (k := 0) (by decide)) rfl rfl rfl rfl (Nat.le_of_ble_eq_true rfl) ⟨rfl, rfl⟩ (by decide) (by decide) dL_tells_19 (fun E ce q9 H1 locs1 ls hx hP hD hS hl h1 h2 h3 => ?_) ?_
  · rcases hE E hx with rfl | rfl
    · refine r_catch (name := sIOB) C hNC [] [⟨0, 58, 64, 57⟩] ⟨0, 58, 59, 55⟩ rfl (fun z hz => by cases hz) (by decide) (by decide) kl_RL_55 xn_IOB hP hD hS hl h1 h2 h3 ?_
      refine r_astore4 (pc := 59) C dL_tells_59 ?_
      refine r_bipush (pc := 61) C (v := (-70)) dL_tells_61 (by decide) ?_
      exact r_iret C rfl dL_tells_63 (Or.inr ⟨rfl, rfl, _, hx⟩) (by decide) (by decide)
    · refine r_catch (name := sIAE) C hNC [⟨0, 58, 59, 55⟩] [] ⟨0, 58, 64, 57⟩ rfl (fun z hz => by rw [List.mem_singleton.mp hz]; exact (Or.inr ⟨by decide, sIOB, kl_RL_55, by decide⟩)) (by decide) (by decide) kl_RL_57 xn_IAE hP hD hS hl h1 h2 h3 ?_
      refine r_astore4 (pc := 64) C dL_tells_64 ?_
      refine r_bipush (pc := 66) C (v := (-70)) dL_tells_66 (by decide) ?_
      exact r_iret C rfl dL_tells_68 (Or.inr ⟨rfl, rfl, _, hx⟩) (by decide) (by decide)
  · intro v S1 hps
    refine r_goto (pc := 22) C (tgt := 58) dL_tells_22 (by decide) ?_
    exact r_iret C rfl dL_tells_58 (Or.inl hps) (by decide) (by decide)
set_option maxRecDepth 100000 in
set_option maxHeartbeats 1000000 in
theorem c_L_tells_2 (l : Launch) (D : Gt) (T : List Nat) (ad : Nat → Nat) (σ : Mm) {nr ng : Nat} (hT : TG nr ng T) (x2 x3 : Int32) {pst : Int32 → St → Prop} {ex : String → Prop} (hM : KI D l yX5_offered (uws yX5_offered cX5_offered 2 (some .int)) (RM 9 2 12) [.ref (ad 0), .int x2] (T, ad, cO D ad σ) pst ex 2 12) (hE : ∀ E, ex E → E = sIOB ∨ E = sIAE) : KW D l yL_tells (uwsW yL_tells cL_tells 5 (some .int) [(0, 58, 59, 55), (0, 58, 64, 57)]) (RM 10 2 12) [.ref (ad 0), .int 2, .int x2, .int x3] (T, ad, cO D ad σ) (fun r S1 => (pst r S1) ∨ (r = -70 ∧ S1 = (T, ad, cO D ad σ) ∧ ∃ E, ex E)) 2 12 := by
  refine KW_of (own := RL) (L0 := [some (.ref (ad 0)), some (.int 2), some (.int x2), some (.int x3), none]) (by decide +kernel) rfl (catc rfl (catc rfl (catc rfl (catc rfl cat0)))) (Nat.le_of_ble_eq_true rfl) rfl ?_
  intro p e s m args below meth c A C hNC
  refine r_iload1 (pc := 0) C dL_tells_0 ?_
  refine r_if_ne (pc := 1) C (tgt := 12) dL_tells_1 (by decide) (fun _ => ?_) (fun h => absurd h (by decide))
  refine r_iload1 (pc := 12) C dL_tells_12 ?_
  refine r_iconst (pc := 13) C (v := 1) dL_tells_13 (by decide) ?_
  refine r_icmp_ne (pc := 14) C (tgt := 25) dL_tells_14 (by decide) (fun _ => ?_) (fun h => absurd h (by decide))
  refine r_iload1 (pc := 25) C dL_tells_25 ?_
  refine r_iconst (pc := 26) C (v := 2) dL_tells_26 (by decide) ?_
  refine r_icmp_ne (pc := 27) C (tgt := 38) dL_tells_27 (by decide) (fun h => absurd rfl h) (fun _ => ?_)
  refine r_aload0 (pc := 30) C dL_tells_30 ?_
  refine r_iload2 (pc := 31) C dL_tells_31 ?_
  refine r_callVI (pc := 32) C hM ml_RL_83 im_X5_offered se_X5_offered ini_X5_offered cd_X5_offered hd_RL_83 (hT.f (k := 0) (by decide)) rfl rfl rfl rfl (Nat.le_of_ble_eq_true rfl) ⟨rfl, rfl⟩ (by decide) (by decide) dL_tells_32 (fun E ce q9 H1 locs1 ls hx hP hD hS hl h1 h2 h3 => ?_) ?_
  · rcases hE E hx with rfl | rfl
    · refine r_catch (name := sIOB) C hNC [] [⟨0, 58, 64, 57⟩] ⟨0, 58, 59, 55⟩ rfl (fun z hz => by cases hz) (by decide) (by decide) kl_RL_55 xn_IOB hP hD hS hl h1 h2 h3 ?_
      refine r_astore4 (pc := 59) C dL_tells_59 ?_
      refine r_bipush (pc := 61) C (v := (-70)) dL_tells_61 (by decide) ?_
      exact r_iret C rfl dL_tells_63 (Or.inr ⟨rfl, rfl, _, hx⟩) (by decide) (by decide)
    · refine r_catch (name := sIAE) C hNC [⟨0, 58, 59, 55⟩] [] ⟨0, 58, 64, 57⟩ rfl (fun z hz => by rw [List.mem_singleton.mp hz]; exact (Or.inr ⟨by decide, sIOB, kl_RL_55, by decide⟩)) (by decide) (by decide) kl_RL_57 xn_IAE hP hD hS hl h1 h2 h3 ?_
      refine r_astore4 (pc := 64) C dL_tells_64 ?_
      refine r_bipush (pc := 66) C (v := (-70)) dL_tells_66 (by decide) ?_
      exact r_iret C rfl dL_tells_68 (Or.inr ⟨rfl, rfl, _, hx⟩) (by decide) (by decide)
  · intro v S1 hps
    refine r_goto (pc := 35) C (tgt := 58) dL_tells_35 (by decide) ?_
    exact r_iret C rfl dL_tells_58 (Or.inl hps) (by decide) (by decide)
set_option maxRecDepth 100000 in
set_option maxHeartbeats 1000000 in
theorem c_L_tells_3 (l : Launch) (D : Gt) (T : List Nat) (ad : Nat → Nat) (σ : Mm) {nr ng : Nat} (hT : TG nr ng T) (x2 x3 : Int32) {pst : Int32 → St → Prop} {ex : String → Prop} (hM : KI D l yX5_stoneIs (uws yX5_stoneIs cX5_stoneIs 4 (some .int)) (RM 9 2 12) [.ref (ad 0), .int x2, .int x3] (T, ad, cO D ad σ) pst ex 2 12) (hE : ∀ E, ex E → E = sIOB ∨ E = sIAE) : KW D l yL_tells (uwsW yL_tells cL_tells 5 (some .int) [(0, 58, 59, 55), (0, 58, 64, 57)]) (RM 10 2 12) [.ref (ad 0), .int 3, .int x2, .int x3] (T, ad, cO D ad σ) (fun r S1 => (pst r S1) ∨ (r = -70 ∧ S1 = (T, ad, cO D ad σ) ∧ ∃ E, ex E)) 2 12 := by
  refine KW_of (own := RL) (L0 := [some (.ref (ad 0)), some (.int 3), some (.int x2), some (.int x3), none]) (by decide +kernel) rfl (catc rfl (catc rfl (catc rfl (catc rfl cat0)))) (Nat.le_of_ble_eq_true rfl) rfl ?_
  intro p e s m args below meth c A C hNC
  refine r_iload1 (pc := 0) C dL_tells_0 ?_
  refine r_if_ne (pc := 1) C (tgt := 12) dL_tells_1 (by decide) (fun _ => ?_) (fun h => absurd h (by decide))
  refine r_iload1 (pc := 12) C dL_tells_12 ?_
  refine r_iconst (pc := 13) C (v := 1) dL_tells_13 (by decide) ?_
  refine r_icmp_ne (pc := 14) C (tgt := 25) dL_tells_14 (by decide) (fun _ => ?_) (fun h => absurd h (by decide))
  refine r_iload1 (pc := 25) C dL_tells_25 ?_
  refine r_iconst (pc := 26) C (v := 2) dL_tells_26 (by decide) ?_
  refine r_icmp_ne (pc := 27) C (tgt := 38) dL_tells_27 (by decide) (fun _ => ?_) (fun h => absurd h (by decide))
  refine r_iload1 (pc := 38) C dL_tells_38 ?_
  refine r_iconst (pc := 39) C (v := 3) dL_tells_39 (by decide) ?_
  refine r_icmp_ne (pc := 40) C (tgt := 52) dL_tells_40 (by decide) (fun h => absurd rfl h) (fun _ => ?_)
  refine r_aload0 (pc := 43) C dL_tells_43 ?_
  refine r_iload2 (pc := 44) C dL_tells_44 ?_
  refine r_iload3 (pc := 45) C dL_tells_45 ?_
  refine r_callVI (pc := 46) C hM ml_RL_86 im_X5_stoneIs se_X5_stoneIs ini_X5_stoneIs cd_X5_stoneIs hd_RL_86 (hT.f (k := 0) (by decide)) rfl rfl rfl rfl (Nat.le_of_ble_eq_true rfl) ⟨rfl, rfl⟩ (by decide) (by decide) dL_tells_46 (fun E ce q9 H1 locs1 ls hx hP hD hS hl h1 h2 h3 => ?_) ?_
  · rcases hE E hx with rfl | rfl
    · refine r_catch (name := sIOB) C hNC [] [⟨0, 58, 64, 57⟩] ⟨0, 58, 59, 55⟩ rfl (fun z hz => by cases hz) (by decide) (by decide) kl_RL_55 xn_IOB hP hD hS hl h1 h2 h3 ?_
      refine r_astore4 (pc := 59) C dL_tells_59 ?_
      refine r_bipush (pc := 61) C (v := (-70)) dL_tells_61 (by decide) ?_
      exact r_iret C rfl dL_tells_63 (Or.inr ⟨rfl, rfl, _, hx⟩) (by decide) (by decide)
    · refine r_catch (name := sIAE) C hNC [⟨0, 58, 59, 55⟩] [] ⟨0, 58, 64, 57⟩ rfl (fun z hz => by rw [List.mem_singleton.mp hz]; exact (Or.inr ⟨by decide, sIOB, kl_RL_55, by decide⟩)) (by decide) (by decide) kl_RL_57 xn_IAE hP hD hS hl h1 h2 h3 ?_
      refine r_astore4 (pc := 64) C dL_tells_64 ?_
      refine r_bipush (pc := 66) C (v := (-70)) dL_tells_66 (by decide) ?_
      exact r_iret C rfl dL_tells_68 (Or.inr ⟨rfl, rfl, _, hx⟩) (by decide) (by decide)
  · intro v S1 hps
    refine r_goto (pc := 49) C (tgt := 58) dL_tells_49 (by decide) ?_
    exact r_iret C rfl dL_tells_58 (Or.inl hps) (by decide) (by decide)
set_option maxRecDepth 100000 in
set_option maxHeartbeats 1000000 in
theorem c_L_tells_4 (l : Launch) (D : Gt) (T : List Nat) (ad : Nat → Nat) (σ : Mm) {nr ng : Nat} (hT : TG nr ng T) (x2 x3 : Int32) {pst : Int32 → St → Prop} {ex : String → Prop} (hM : KI D l yX5_polished (uws yX5_polished cX5_polished 4 (some .int)) (RM 9 2 12) [.ref (ad 0), .int x2, .int x3] (T, ad, cO D ad σ) pst ex 2 12) (hE : ∀ E, ex E → E = sIOB ∨ E = sIAE) : KW D l yL_tells (uwsW yL_tells cL_tells 5 (some .int) [(0, 58, 59, 55), (0, 58, 64, 57)]) (RM 10 2 12) [.ref (ad 0), .int 4, .int x2, .int x3] (T, ad, cO D ad σ) (fun r S1 => (pst r S1) ∨ (r = -70 ∧ S1 = (T, ad, cO D ad σ) ∧ ∃ E, ex E)) 2 12 := by
  refine KW_of (own := RL) (L0 := [some (.ref (ad 0)), some (.int 4), some (.int x2), some (.int x3), none]) (by decide +kernel) rfl (catc rfl (catc rfl (catc rfl (catc rfl cat0)))) (Nat.le_of_ble_eq_true rfl) rfl ?_
  intro p e s m args below meth c A C hNC
  refine r_iload1 (pc := 0) C dL_tells_0 ?_
  refine r_if_ne (pc := 1) C (tgt := 12) dL_tells_1 (by decide) (fun _ => ?_) (fun h => absurd h (by decide))
  refine r_iload1 (pc := 12) C dL_tells_12 ?_
  refine r_iconst (pc := 13) C (v := 1) dL_tells_13 (by decide) ?_
  refine r_icmp_ne (pc := 14) C (tgt := 25) dL_tells_14 (by decide) (fun _ => ?_) (fun h => absurd h (by decide))
  refine r_iload1 (pc := 25) C dL_tells_25 ?_
  refine r_iconst (pc := 26) C (v := 2) dL_tells_26 (by decide) ?_
  refine r_icmp_ne (pc := 27) C (tgt := 38) dL_tells_27 (by decide) (fun _ => ?_) (fun h => absurd h (by decide))
  refine r_iload1 (pc := 38) C dL_tells_38 ?_
  refine r_iconst (pc := 39) C (v := 3) dL_tells_39 (by decide) ?_
  refine r_icmp_ne (pc := 40) C (tgt := 52) dL_tells_40 (by decide) (fun _ => ?_) (fun h => absurd h (by decide))
  refine r_aload0 (pc := 52) C dL_tells_52 ?_
  refine r_iload2 (pc := 53) C dL_tells_53 ?_
  refine r_iload3 (pc := 54) C dL_tells_54 ?_
  refine r_callVI (pc := 55) C hM ml_RL_89 im_X5_polished se_X5_polished ini_X5_polished cd_X5_polished hd_RL_89 (hT.f (k := 0) (by decide)) rfl rfl rfl rfl (Nat.le_of_ble_eq_true rfl) ⟨rfl, rfl⟩ (by decide) (by decide) dL_tells_55 (fun E ce q9 H1 locs1 ls hx hP hD hS hl h1 h2 h3 => ?_) ?_
  · rcases hE E hx with rfl | rfl
    · refine r_catch (name := sIOB) C hNC [] [⟨0, 58, 64, 57⟩] ⟨0, 58, 59, 55⟩ rfl (fun z hz => by cases hz) (by decide) (by decide) kl_RL_55 xn_IOB hP hD hS hl h1 h2 h3 ?_
      refine r_astore4 (pc := 59) C dL_tells_59 ?_
      refine r_bipush (pc := 61) C (v := (-70)) dL_tells_61 (by decide) ?_
      exact r_iret C rfl dL_tells_63 (Or.inr ⟨rfl, rfl, _, hx⟩) (by decide) (by decide)
    · refine r_catch (name := sIAE) C hNC [⟨0, 58, 59, 55⟩] [] ⟨0, 58, 64, 57⟩ rfl (fun z hz => by rw [List.mem_singleton.mp hz]; exact (Or.inr ⟨by decide, sIOB, kl_RL_55, by decide⟩)) (by decide) (by decide) kl_RL_57 xn_IAE hP hD hS hl h1 h2 h3 ?_
      refine r_astore4 (pc := 64) C dL_tells_64 ?_
      refine r_bipush (pc := 66) C (v := (-70)) dL_tells_66 (by decide) ?_
      exact r_iret C rfl dL_tells_68 (Or.inr ⟨rfl, rfl, _, hx⟩) (by decide) (by decide)
  · intro v S1 hps
    exact r_iret C rfl dL_tells_58 (Or.inl hps) (by decide) (by decide)

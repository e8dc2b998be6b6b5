/-! ===== the law's own methods, which catch ===== -/
def NCL : List (String × String) := [(sIAE, sISE), (sIAE, sIOB), (sISE, sIAE), (sISE, sIOB), (sIOB, sIAE), (sIOB, sISE)]
def NC (s : State) : Prop := ∀ q ∈ NCL, va_Nc q.1 q.2 s
theorem NC.moved {u U : State} (h : u.vm.Alike U.vm) (hc : NC u) : NC U := fun q hq => va_Nc.moved h (hc q hq)
def PreN (D : Gt) (S : St) (sz : Nat) (U : State) : Prop := PreB D S sz U ∧ NC U
theorem PreN.blind {D : Gt} {S : St} {sz : Nat} {As : List Value} : FrameBlind (va_Pc As (PreN D S sz)) := fun a U g mk q => by
  obtain ⟨q0, ⟨q1, qP, qD, qK, qE, qZ⟩, qN⟩ := q
  exact ⟨q0, ⟨q1, qP, qD, va_K.moved (u := U) (U := U.calling g mk a) (Vm.Alike.refl U.vm) qK, EN.same (u := U) (U := U.calling g mk a) rfl qE, qZ.1.moved (u := U) (U := U.calling g mk a) (Vm.Alike.refl U.vm), qZ.2.moved (u := U) (U := U.calling g mk a) (Vm.Alike.refl U.vm)⟩, NC.moved (u := U) (U := U.calling g mk a) (Vm.Alike.refl U.vm) qN⟩
def KW (D : Gt) (l : Launch) (y : MethodName) (ws : List Cond) (rm : Room) (As : List Value) (S : St) (post : Int32 → St → Prop) (mc ms : Nat) : Prop := ∀ sz : Nat, vx_Met l y ws rm (va_Pc As (PreN D S sz)) (va_Qi post (PoB D (wA S sz)) (wA S sz)) (XCs D S (wA S sz) nX) mc ms (wA S sz)
theorem KW_of {D : Gt} {l : Launch} {y : MethodName} {own : String} {cc : ByteArray} {n : Nat} {ret : Option FieldType} {hh : List (Nat × Nat × Nat × Nat)} {rm : Room} {As : List Value} {S : St} {post : Int32 → St → Prop} {mc ms : Nat} {L0 : List (Option Value)} (hy : plainName y.cls = true) (hown : y.cls = own) (hc : ∀ v ∈ As, v.category = 1) (hn : As.length ≤ n) (hL : As.map some ++ List.replicate (n - As.length) none = L0) (body : ∀ (p : Program) (e : Env) (s : State) (m : MethodId) (args : Array Value) (below : List Frame) (meth : Method) (c : Code) (A : Nat → Prop), CX D A own cc n ret (tableOf hh) p s m args meth c → NC s → V D A n S p l e rm s m args below meth c 0 0 (vx_MQ below (va_Qi post (PoB D A) A) (XCs D S A nX) args s mc ms A) 0 L0 []) : KW D l y (uwsW y cc n ret hh) rm As S post mc ms := fun sz => by
  subst hown
  subst hL
  refine vx_ofWH (cc := cc) (maxL := n) (ret := ret) (hh := hh) hy rfl ?_
  intro p e s m args below meth c s₁ B hml hv
  obtain ⟨rfl, ⟨hsz, hP, hD, hK, hE, hZ⟩, hNC⟩ := hv
  have hts := atoms_spec (ws := uwsW y cc n ret hh) B.pre
  have htb : c.exceptionTable.toList = tableOf hh := vx_table (x := y) B (hts _ List.mem_cons_self)
  have C : CX D (wA S sz) y.cls cc n ret (tableOf hh) p s m As.toArray meth c := ⟨⟨B.exec, B.bytes, hml, findClass_of_methodNamed B.named, fun w hw => hts w (List.mem_cons_of_mem _ hw)⟩, hK, hE, hZ, B.returns, B.notSynchronized, fun q hq => Or.inr (by rw [← hsz]; exact hq), htb⟩
  have hV := body p e s m As.toArray below meth c (wA S sz) C hNC
  rw [lg_entry_eq]
  refine hV s.heap [] _ hP (hD.weaken (fun k q hk _ => ?_)) va_S.rf (lL_entry hc hn)
  obtain ⟨t, ht, e⟩ := List.mem_map.mp (List.mem_of_getElem? hk)
  exact Or.inl ⟨t, ht, by rw [← e]⟩
section LAWROWS
variable {D : Gt} {A : Nat → Prop} {own : String} {cc : ByteArray} {n : Nat} {ret : Option FieldType} {tb : List ExceptionTableEntry} {p : Program} {l : Launch} {e : Env} {R : Room} {s : State} {m : MethodId} {args : Array Value} {below : List Frame} {meth : Method} {c : Code} {cells slots : Nat} {Q : State → Prop} {S : St} {pc : Nat} {L : List (Option Value)} {st : List Value}
theorem preN_of (C : CX D A own cc n ret tb p s m args meth c) (hN : NC s) {H : Heap} {locs : List Loc} {As : List Value} (hP : va_P D.1 vwCl (wS S) H) (hD : va_D A (wS S)) (hS : va_S A s.heap H locs) : PreS s H (va_Pc As (PreN D S H.size)) As := by
  refine ⟨PreN.blind, fun U hU hW => ⟨rfl, ⟨by rw [hU], by rw [hU]; exact hP, hD.weaken (fun _ _ _ _ => trivial), va_K.moved hW.alike C.2.1, EN.warm hW C.2.2.1, ?_⟩, NC.moved hW.alike hN⟩⟩
  rw [hU]
  exact C.2.2.2.1.go hS (wA_sub C.2.2.2.2.2.2.1 hD hS) hW.alike
theorem r_callW (C : CX D A own cc n ret tb p s m args meth c) (hN : NC s) {y : MethodName} {cc' : ByteArray} {n' na index : Nat} {ret' : Option FieldType} {hh : List (Nat × Nat × Nat × Nat)} {rm : Room} {mc ms : Nat} {post : Int32 → St → Prop} {As st0 : List Value} (hM : KW D l y (uwsW y cc' n' ret' hh) rm As S post mc ms) (hl2 : Cond.methodLink own index y ∈ UW) (hi : Cond.static y ∈ UW) (hini : Cond.initialized y.cls ∈ UW) (hcd : Cond.codeWith y cc' n' ret' hh ∈ UW) (hd : y.cls ≠ "java/lang/invoke/MethodHandle" ∧ y.cls ≠ "java/lang/invoke/VarHandle" ∧ (parseMethodDescriptor y.desc).map (fun d => d.parameters.length) = some na) (hst : st0 = As.reverse ++ st) (hna : As.length = na) (hcat : (st.map fun v => v.category).sum ≤ 8) (hrm : rm.cells = mc ∧ rm.slots = ms) (hR : rm.frames + 1 ≤ R.frames ∧ 8 + (n' + 11) + rm.locals ≤ R.locals) (hf : cells + mc ≤ R.cells ∧ slots + ms ≤ R.slots) (d : decode cc pc = .ok (.invokestatic index, 3)) (kk : ∀ (r : Int32) (S1 : St), post r S1 → V D A n S1 p l e R s m args below meth c (cells + mc) (slots + ms) Q (pc + 3) L (.int r :: st)) : V D A n S p l e R s m args below meth c cells slots Q pc L st0 := fun H locs ls hP hD hS hl =>
  vx_calli (vx_runSX C.1 (hM H.size) ⟨⟨hrm.1, hrm.2, hR.1, hR.2, pay_in C.1.2.2.2.2 (uwsW_in hcd), List.mem_cons_self⟩, C.1.2.2.2.2 _ hcd, C.1.2.2.2.2 _ hini, ⟨hd.1, hd.2.1⟩, (fun sig h => by have h2 := hd.2.2; rw [h] at h2; exact (Option.some.inj h2).symm), C.1.2.2.2.2 _ hl2, C.1.2.2.2.2 _ hi⟩ (preN_of C hN hP hD hS) rfl hna hl.1.1 hst (lv_room hcat) d hf) hS (fun q _ hq => wA_sub C.2.2.2.2.2.2.1 hD hS q hq) (fun q hq => wA_sub C.2.2.2.2.2.2.1 hD hS q hq) (fun q _ hq => wA_sub C.2.2.2.2.2.2.1 hD hS q hq) (fun E ce q9 u t H1 locs1 ht _ _ hx hz hk hS1 h1 h2 h3 => hx.1.elim) (fun r u t H1 locs1 ht _ hp hb hz hk hS1 => kk r u hp H1 locs1 ls (by have hq := hb.1; rw [ht] at hq; exact hq) (hb.2.weaken (fun _ q _ hq => wA_sub C.2.2.2.2.2.2.1 hD hS _ hq)) hS1 hl)
theorem r_catch {hh : List (Nat × Nat × Nat × Nat)} (C : CX D A RL cc n ret (tableOf hh) p s m args meth c) (hN : NC s) {name : String} (pre suf : List ExceptionTableEntry) (x : ExceptionTableEntry) (hsplit : tableOf hh = pre ++ x :: suf) (hpass : ∀ z ∈ pre, covers z pc = false ∨ (z.catchType ≠ 0 ∧ ∃ nm : String, Cond.classLink RL z.catchType nm ∈ UW ∧ (name, nm) ∈ NCL)) (hx : covers x pc = true) (h0 : x.catchType ≠ 0) (hlink : Cond.classLink RL x.catchType name ∈ UW) (hn : name ∈ XN) {H1 : Heap} {locs1 : List Loc} {ls : Array Slot} {ce : Cell} {q9 : Addr} (hP : va_P D.1 vwCl (wS S) H1) (hD : va_D A (wS S)) (hS : va_S A s.heap H1 locs1) (hl : lL ls n L) (h1 : H1[q9]? = some ce) (h2 : ce.vm = .none) (h3 : s.vm.findClass name = some ce.cls) (kk : V D A n S p l e R s m args below meth c cells slots Q x.handlerPc L [.ref q9]) : vx_W p l e R s m args below meth c H1 locs1 cells slots Q (F0 m pc ls st) q9 := by
  refine vx_catch C.1.2.2.2.1 pre x suf (C.2.2.2.2.2.2.2.trans hsplit) (fun z hz => ?_) hx h0 (C.1.2.2.2.2 _ hlink) (va_Nw.use rfl (C.2.2.1.1.1 _ hn)) h1 h2 h3 (kk H1 locs1 ls hP hD hS hl)
  rcases hpass z hz with a | ⟨a, nm, b, d⟩
  · exact Or.inl a
  · exact Or.inr ⟨a, nm, C.1.2.2.2.2 _ b, hN _ d⟩
end LAWROWS
theorem kl_RL_13 : Cond.classLink RL 13 sIOB ∈ UW := UW_m (i := 154) (by decide +kernel) (by decide +kernel)
theorem kl_RL_15 : Cond.classLink RL 15 sISE ∈ UW := UW_m (i := 155) (by decide +kernel) (by decide +kernel)
theorem kl_RL_21 : Cond.classLink RL 21 sIAE ∈ UW := UW_m (i := 253) (by decide +kernel) (by decide +kernel)
theorem xn_IOB : sIOB ∈ XN := by decide
theorem xn_ISE : sISE ∈ XN := by decide
theorem xn_IAE : sIAE ∈ XN := by decide
theorem cdW_L_parcel : Cond.codeWith yL_parcel cL_parcel 4 (some .int) [(0, 9, 12, 13), (0, 9, 15, 15)] ∈ UW := UW_m (i := 153) (by decide +kernel) (by decide +kernel)
theorem st_L_parcel : Cond.static yL_parcel ∈ UW := UW_m (i := 152) (by decide +kernel) (by decide +kernel)
theorem ml_RL_95 : Cond.methodLink RL 95 yL_parcel ∈ UW := UW_m (i := 151) (by decide +kernel) (by decide +kernel)
theorem hd_RL_95 : yL_parcel.cls ≠ "java/lang/invoke/MethodHandle" ∧ yL_parcel.cls ≠ "java/lang/invoke/VarHandle" ∧ (parseMethodDescriptor yL_parcel.desc).map (fun d => d.parameters.length) = some 3 := ⟨by decide +kernel, by decide +kernel, by decide +kernel⟩
theorem ini_L : Cond.initialized RL ∈ UW := UW_m (i := 39) (by decide +kernel) (by decide +kernel)
set_option maxRecDepth 100000 in
set_option maxHeartbeats 1000000 in
theorem c_L_parcel (l : Launch) (D : Gt) (T : List Nat) (ad : Nat → Nat) (σ : Mm) {nr ng : Nat} (hT : TG nr ng T) (x1 : Int32) {pst : Int32 → St → Prop} {ex : String → Prop} {PP : Int32 → List Nat → (Nat → Nat) → Mm → Prop} (hM : KI D l yX5_parcel (uws yX5_parcel cX5_parcel 3 (some .int)) (RM 9 40 400) [.ref (ad 0), .int x1] (T, ad, cO D ad σ) pst ex 40 400) (hQ : ∀ (v : Int32) (S0 : St), pst v S0 → ∃ (T2 : List Nat) (ad2 : Nat → Nat) (σ2 : Mm), S0 = (T2, ad2, cO D ad2 σ2) ∧ 399 ∈ T2 ∧ ad2 399 = ad 399 ∧ PP v T2 ad2 σ2) (hE : ∀ E, ex E → E = sIOB ∨ E = sISE) : KW D l yL_parcel (uwsW yL_parcel cL_parcel 4 (some .int) [(0, 9, 12, 13), (0, 9, 15, 15)]) (RM 10 40 400) [.ref (ad 0), .int x1, .ref (ad 399)] (T, ad, cO D ad σ) (fun r S1 => (r = 0 ∧ ∃ (v : Int32) (T2 : List Nat) (ad2 : Nat → Nat) (σ2 : Mm), PP v T2 ad2 σ2 ∧ S1 = (T2, ad2, cO D ad2 (up σ2 99 0 v))) ∨ (r = 1 ∧ ex sIOB ∧ S1 = (T, ad, cO D ad σ)) ∨ (r = 2 ∧ ex sISE ∧ S1 = (T, ad, cO D ad σ))) 40 400 := by
  refine KW_of (own := RL) (L0 := [some (.ref (ad 0)), some (.int x1), some (.ref (ad 399)), none]) (by decide +kernel) rfl (catc rfl (catc rfl (catc rfl cat0))) (Nat.le_of_ble_eq_true rfl) rfl ?_
  intro p e s m args below meth c A C hNC
  refine r_aload2 (pc := 0) C dL_parcel_0 ?_
  refine r_iconst (pc := 1) C (v := 0) dL_parcel_1 (by decide) ?_
  refine r_aload0 (pc := 2) C dL_parcel_2 ?_
  refine r_iload1 (pc := 3) C dL_parcel_3 ?_
  refine r_callVI (pc := 4) C hM ml_RL_7 im_X5_parcel se_X5_parcel ini_X5_parcel cd_X5_parcel hd_RL_7 (hT.f (k := 0) (by decide)) rfl rfl rfl rfl (Nat.le_of_ble_eq_true rfl) ⟨rfl, rfl⟩ (by decide) (by decide) dL_parcel_4 (fun E ce q9 H1 locs1 ls hx hP hD hS hl h1 h2 h3 => ?_) ?_
  · rcases hE E hx with rfl | rfl
    · refine r_catch (name := sIOB) C hNC [] [⟨0, 9, 15, 15⟩] ⟨0, 9, 12, 13⟩ rfl (fun z hz => by cases hz) (by decide) (by decide) kl_RL_13 xn_IOB hP hD hS hl h1 h2 h3 ?_
      refine r_astore3 (pc := 12) C dL_parcel_12 ?_
      refine r_iconst (pc := 13) C (v := 1) dL_parcel_13 (by decide) ?_
      exact r_iret C rfl dL_parcel_14 (Or.inr (Or.inl ⟨rfl, hx, rfl⟩)) (by decide) (by decide)
    · refine r_catch (name := sISE) C hNC [⟨0, 9, 12, 13⟩] [] ⟨0, 9, 15, 15⟩ rfl (fun z hz => by rw [List.mem_singleton.mp hz]; exact (Or.inr ⟨by decide, sIOB, kl_RL_13, by decide⟩)) (by decide) (by decide) kl_RL_15 xn_ISE hP hD hS hl h1 h2 h3 ?_
      refine r_astore3 (pc := 15) C dL_parcel_15 ?_
      refine r_iconst (pc := 16) C (v := 2) dL_parcel_16 (by decide) ?_
      exact r_iret C rfl dL_parcel_17 (Or.inr (Or.inr ⟨rfl, hx, rfl⟩)) (by decide) (by decide)
  · intro v S1 hps
    obtain ⟨T2, ad2, σ2, rfl, h399, ha, hpp⟩ := hQ v S1 hps
    refine V_st (st2 := [.int v, .int 0, .ref (ad2 399)]) (by rw [ha]) ?_
    refine r_i2l (pc := 7) C dL_parcel_7 ?_
    refine r_last (pc := 8) C (t := 399) (k := 0) (N := 1) (h := fun i => (σ2 99 i).toInt64) h399 rfl rfl (by decide) (by decide) (fun q => u_399 q) dL_parcel_8 ?_
    refine r_goto (pc := 9) C (tgt := 18) dL_parcel_9 (by decide) ?_
    refine r_iconst (pc := 18) C (v := 0) dL_parcel_18 (by decide) ?_
    exact r_iret C rfl dL_parcel_19 (Or.inl ⟨rfl, v, T2, ad2, σ2, hpp, rfl⟩) (by decide) (by decide)
theorem cdW_L_stone : Cond.codeWith yL_stone cL_stone 8 (some .int) [(0, 16, 19, 13), (0, 16, 23, 21), (0, 16, 27, 15)] ∈ UW := UW_m (i := 252) (by decide +kernel) (by decide +kernel)
theorem st_L_stone : Cond.static yL_stone ∈ UW := UW_m (i := 251) (by decide +kernel) (by decide +kernel)
theorem ml_RL_104 : Cond.methodLink RL 104 yL_stone ∈ UW := UW_m (i := 250) (by decide +kernel) (by decide +kernel)
theorem hd_RL_104 : yL_stone.cls ≠ "java/lang/invoke/MethodHandle" ∧ yL_stone.cls ≠ "java/lang/invoke/VarHandle" ∧ (parseMethodDescriptor yL_stone.desc).map (fun d => d.parameters.length) = some 7 := ⟨by decide +kernel, by decide +kernel, by decide +kernel⟩
set_option maxRecDepth 100000 in
set_option maxHeartbeats 1000000 in
theorem c_L_stone (l : Launch) (D : Gt) (T : List Nat) (ad : Nat → Nat) (σ : Mm) {nr ng : Nat} (hT : TG nr ng T) (x1 x2 x3 x4 x5 : Int32) {pst : Int32 → St → Prop} {ex : String → Prop} {PP : Int32 → List Nat → (Nat → Nat) → Mm → Prop} (hM : KI D l yX5_stone (uws yX5_stone cX5_stone 8 (some .int)) (RM 9 40 400) [.ref (ad 0), .int x1, .int x2, .int x3, .int x4, .int x5] (T, ad, cO D ad σ) pst ex 40 400) (hQ : ∀ (v : Int32) (S0 : St), pst v S0 → ∃ (T2 : List Nat) (ad2 : Nat → Nat) (σ2 : Mm), S0 = (T2, ad2, cO D ad2 σ2) ∧ 399 ∈ T2 ∧ ad2 399 = ad 399 ∧ PP v T2 ad2 σ2) (hE : ∀ E, ex E → E = sIOB ∨ E = sIAE ∨ E = sISE) : KW D l yL_stone (uwsW yL_stone cL_stone 8 (some .int) [(0, 16, 19, 13), (0, 16, 23, 21), (0, 16, 27, 15)]) (RM 10 40 400) [.ref (ad 0), .int x1, .int x2, .int x3, .int x4, .int x5, .ref (ad 399)] (T, ad, cO D ad σ) (fun r S1 => (r = 0 ∧ ∃ (v : Int32) (T2 : List Nat) (ad2 : Nat → Nat) (σ2 : Mm), PP v T2 ad2 σ2 ∧ S1 = (T2, ad2, cO D ad2 (up σ2 99 0 v))) ∨ (r = 1 ∧ ex sIOB ∧ S1 = (T, ad, cO D ad σ)) ∨ (r = 2 ∧ ex sIAE ∧ S1 = (T, ad, cO D ad σ)) ∨ (r = 3 ∧ ex sISE ∧ S1 = (T, ad, cO D ad σ))) 40 400 := by
  refine KW_of (own := RL) (L0 := [some (.ref (ad 0)), some (.int x1), some (.int x2), some (.int x3), some (.int x4), some (.int x5), some (.ref (ad 399)), none]) (by decide +kernel) rfl (catc rfl (catc rfl (catc rfl (catc rfl (catc rfl (catc rfl (catc rfl cat0))))))) (Nat.le_of_ble_eq_true rfl) rfl ?_
  intro p e s m args below meth c A C hNC
  refine r_aload6 (pc := 0) C dL_stone_0 ?_
  refine r_iconst (pc := 2) C (v := 0) dL_stone_2 (by decide) ?_
  refine r_aload0 (pc := 3) C dL_stone_3 ?_
  refine r_iload1 (pc := 4) C dL_stone_4 ?_
  refine r_iload2 (pc := 5) C dL_stone_5 ?_
  refine r_iload3 (pc := 6) C dL_stone_6 ?_
  refine r_iload4 (pc := 7) C dL_stone_7 ?_
  refine r_iload5 (pc := 9) C dL_stone_9 ?_
  refine r_callVI (pc := 11) C hM ml_RL_17 im_X5_stone se_X5_stone ini_X5_stone cd_X5_stone hd_RL_17 (hT.f (k := 0) (by decide)) rfl rfl rfl rfl (Nat.le_of_ble_eq_true rfl) ⟨rfl, rfl⟩ (by decide) (by decide) dL_stone_11 (fun E ce q9 H1 locs1 ls hx hP hD hS hl h1 h2 h3 => ?_) ?_
  · rcases hE E hx with rfl | rfl | rfl
    · refine r_catch (name := sIOB) C hNC [] [⟨0, 16, 23, 21⟩, ⟨0, 16, 27, 15⟩] ⟨0, 16, 19, 13⟩ rfl (fun z hz => by cases hz) (by decide) (by decide) kl_RL_13 xn_IOB hP hD hS hl h1 h2 h3 ?_
      refine r_astore7 (pc := 19) C dL_stone_19 ?_
      refine r_iconst (pc := 21) C (v := 1) dL_stone_21 (by decide) ?_
      exact r_iret C rfl dL_stone_22 (Or.inr (Or.inl ⟨rfl, hx, rfl⟩)) (by decide) (by decide)
    · refine r_catch (name := sIAE) C hNC [⟨0, 16, 19, 13⟩] [⟨0, 16, 27, 15⟩] ⟨0, 16, 23, 21⟩ rfl (fun z hz => by rw [List.mem_singleton.mp hz]; exact (Or.inr ⟨by decide, sIOB, kl_RL_13, by decide⟩)) (by decide) (by decide) kl_RL_21 xn_IAE hP hD hS hl h1 h2 h3 ?_
      refine r_astore7 (pc := 23) C dL_stone_23 ?_
      refine r_iconst (pc := 25) C (v := 2) dL_stone_25 (by decide) ?_
      exact r_iret C rfl dL_stone_26 (Or.inr (Or.inr (Or.inl ⟨rfl, hx, rfl⟩))) (by decide) (by decide)
    · refine r_catch (name := sISE) C hNC [⟨0, 16, 19, 13⟩, ⟨0, 16, 23, 21⟩] [] ⟨0, 16, 27, 15⟩ rfl (fun z hz => by
          rcases List.mem_cons.mp hz with q | q
          · rw [q]; exact (Or.inr ⟨by decide, sIOB, kl_RL_13, by decide⟩)
          · rw [List.mem_singleton.mp q]; exact (Or.inr ⟨by decide, sIAE, kl_RL_21, by decide⟩)) (by decide) (by decide) kl_RL_15 xn_ISE hP hD hS hl h1 h2 h3 ?_
      refine r_astore7 (pc := 27) C dL_stone_27 ?_
      refine r_iconst (pc := 29) C (v := 3) dL_stone_29 (by decide) ?_
      exact r_iret C rfl dL_stone_30 (Or.inr (Or.inr (Or.inr ⟨rfl, hx, rfl⟩))) (by decide) (by decide)
  · intro v S1 hps
    obtain ⟨T2, ad2, σ2, rfl, h399, ha, hpp⟩ := hQ v S1 hps
    refine V_st (st2 := [.int v, .int 0, .ref (ad2 399)]) (by rw [ha]) ?_
    refine r_i2l (pc := 14) C dL_stone_14 ?_
    refine r_last (pc := 15) C (t := 399) (k := 0) (N := 1) (h := fun i => (σ2 99 i).toInt64) h399 rfl rfl (by decide) (by decide) (fun q => u_399 q) dL_stone_15 ?_
    refine r_goto (pc := 16) C (tgt := 31) dL_stone_16 (by decide) ?_
    refine r_iconst (pc := 31) C (v := 0) dL_stone_31 (by decide) ?_
    exact r_iret C rfl dL_stone_32 (Or.inl ⟨rfl, v, T2, ad2, σ2, hpp, rfl⟩) (by decide) (by decide)
theorem cdW_L_drift : Cond.codeWith yL_drift cL_drift 5 (some .int) [(0, 10, 13, 13), (0, 10, 17, 21)] ∈ UW := UW_m (i := 372) (by decide +kernel) (by decide +kernel)
theorem st_L_drift : Cond.static yL_drift ∈ UW := UW_m (i := 371) (by decide +kernel) (by decide +kernel)
theorem ml_RL_108 : Cond.methodLink RL 108 yL_drift ∈ UW := UW_m (i := 370) (by decide +kernel) (by decide +kernel)
theorem hd_RL_108 : yL_drift.cls ≠ "java/lang/invoke/MethodHandle" ∧ yL_drift.cls ≠ "java/lang/invoke/VarHandle" ∧ (parseMethodDescriptor yL_drift.desc).map (fun d => d.parameters.length) = some 4 := ⟨by decide +kernel, by decide +kernel, by decide +kernel⟩
set_option maxRecDepth 100000 in
set_option maxHeartbeats 1000000 in
theorem c_L_drift (l : Launch) (D : Gt) (T : List Nat) (ad : Nat → Nat) (σ : Mm) {nr ng : Nat} (hT : TG nr ng T) (x1 x2 : Int32) {pst : Int32 → St → Prop} {ex : String → Prop} {PP : Int32 → List Nat → (Nat → Nat) → Mm → Prop} (hM : KI D l yX5_drift (uws yX5_drift cX5_drift 4 (some .int)) (RM 9 40 400) [.ref (ad 0), .int x1, .int x2] (T, ad, cO D ad σ) pst ex 40 400) (hQ : ∀ (v : Int32) (S0 : St), pst v S0 → ∃ (T2 : List Nat) (ad2 : Nat → Nat) (σ2 : Mm), S0 = (T2, ad2, cO D ad2 σ2) ∧ 399 ∈ T2 ∧ ad2 399 = ad 399 ∧ PP v T2 ad2 σ2) (hE : ∀ E, ex E → E = sIOB ∨ E = sIAE) : KW D l yL_drift (uwsW yL_drift cL_drift 5 (some .int) [(0, 10, 13, 13), (0, 10, 17, 21)]) (RM 10 40 400) [.ref (ad 0), .int x1, .int x2, .ref (ad 399)] (T, ad, cO D ad σ) (fun r S1 => (r = 0 ∧ ∃ (v : Int32) (T2 : List Nat) (ad2 : Nat → Nat) (σ2 : Mm), PP v T2 ad2 σ2 ∧ S1 = (T2, ad2, cO D ad2 (up σ2 99 0 v))) ∨ (r = 1 ∧ ex sIOB ∧ S1 = (T, ad, cO D ad σ)) ∨ (r = 2 ∧ ex sIAE ∧ S1 = (T, ad, cO D ad σ))) 40 400 := by
  refine KW_of (own := RL) (L0 := [some (.ref (ad 0)), some (.int x1), some (.int x2), some (.ref (ad 399)), none]) (by decide +kernel) rfl (catc rfl (catc rfl (catc rfl (catc rfl cat0)))) (Nat.le_of_ble_eq_true rfl) rfl ?_
  intro p e s m args below meth c A C hNC
  refine r_aload3 (pc := 0) C dL_drift_0 ?_
  refine r_iconst (pc := 1) C (v := 0) dL_drift_1 (by decide) ?_
  refine r_aload0 (pc := 2) C dL_drift_2 ?_
  refine r_iload1 (pc := 3) C dL_drift_3 ?_
  refine r_iload2 (pc := 4) C dL_drift_4 ?_
  refine r_callVI (pc := 5) C hM ml_RL_23 im_X5_drift se_X5_drift ini_X5_drift cd_X5_drift hd_RL_23 (hT.f (k := 0) (by decide)) rfl rfl rfl rfl (Nat.le_of_ble_eq_true rfl) ⟨rfl, rfl⟩ (by decide) (by decide) dL_drift_5 (fun E ce q9 H1 locs1 ls hx hP hD hS hl h1 h2 h3 => ?_) ?_
  · rcases hE E hx with rfl | rfl
    · refine r_catch (name := sIOB) C hNC [] [⟨0, 10, 17, 21⟩] ⟨0, 10, 13, 13⟩ rfl (fun z hz => by cases hz) (by decide) (by decide) kl_RL_13 xn_IOB hP hD hS hl h1 h2 h3 ?_
      refine r_astore4 (pc := 13) C dL_drift_13 ?_
      refine r_iconst (pc := 15) C (v := 1) dL_drift_15 (by decide) ?_
      exact r_iret C rfl dL_drift_16 (Or.inr (Or.inl ⟨rfl, hx, rfl⟩)) (by decide) (by decide)
    · refine r_catch (name := sIAE) C hNC [⟨0, 10, 13, 13⟩] [] ⟨0, 10, 17, 21⟩ rfl (fun z hz => by rw [List.mem_singleton.mp hz]; exact (Or.inr ⟨by decide, sIOB, kl_RL_13, by decide⟩)) (by decide) (by decide) kl_RL_21 xn_IAE hP hD hS hl h1 h2 h3 ?_
      refine r_astore4 (pc := 17) C dL_drift_17 ?_
      refine r_iconst (pc := 19) C (v := 2) dL_drift_19 (by decide) ?_
      exact r_iret C rfl dL_drift_20 (Or.inr (Or.inr ⟨rfl, hx, rfl⟩)) (by decide) (by decide)
  · intro v S1 hps
    obtain ⟨T2, ad2, σ2, rfl, h399, ha, hpp⟩ := hQ v S1 hps
    refine V_st (st2 := [.int v, .int 0, .ref (ad2 399)]) (by rw [ha]) ?_
    refine r_i2l (pc := 8) C dL_drift_8 ?_
    refine r_last (pc := 9) C (t := 399) (k := 0) (N := 1) (h := fun i => (σ2 99 i).toInt64) h399 rfl rfl (by decide) (by decide) (fun q => u_399 q) dL_drift_9 ?_
    refine r_goto (pc := 10) C (tgt := 21) dL_drift_10 (by decide) ?_
    refine r_iconst (pc := 21) C (v := 0) dL_drift_21 (by decide) ?_
    exact r_iret C rfl dL_drift_22 (Or.inl ⟨rfl, v, T2, ad2, σ2, hpp, rfl⟩) (by decide) (by decide)
theorem cdW_L_sort : Cond.codeWith yL_sort cL_sort 5 (some .int) [(0, 10, 13, 13), (0, 10, 17, 15)] ∈ UW := UW_m (i := 379) (by decide +kernel) (by decide +kernel)
theorem st_L_sort : Cond.static yL_sort ∈ UW := UW_m (i := 378) (by decide +kernel) (by decide +kernel)
theorem ml_RL_112 : Cond.methodLink RL 112 yL_sort ∈ UW := UW_m (i := 377) (by decide +kernel) (by decide +kernel)
theorem hd_RL_112 : yL_sort.cls ≠ "java/lang/invoke/MethodHandle" ∧ yL_sort.cls ≠ "java/lang/invoke/VarHandle" ∧ (parseMethodDescriptor yL_sort.desc).map (fun d => d.parameters.length) = some 4 := ⟨by decide +kernel, by decide +kernel, by decide +kernel⟩
set_option maxRecDepth 100000 in
set_option maxHeartbeats 1000000 in
theorem c_L_sort (l : Launch) (D : Gt) (T : List Nat) (ad : Nat → Nat) (σ : Mm) {nr ng : Nat} (hT : TG nr ng T) (x1 x2 : Int32) {pst : Int32 → St → Prop} {ex : String → Prop} {PP : Int32 → List Nat → (Nat → Nat) → Mm → Prop} (hM : KI D l yX5_sort (uws yX5_sort cX5_sort 5 (some .int)) (RM 9 40 400) [.ref (ad 0), .int x1, .int x2] (T, ad, cO D ad σ) pst ex 40 400) (hQ : ∀ (v : Int32) (S0 : St), pst v S0 → ∃ (T2 : List Nat) (ad2 : Nat → Nat) (σ2 : Mm), S0 = (T2, ad2, cO D ad2 σ2) ∧ 399 ∈ T2 ∧ ad2 399 = ad 399 ∧ PP v T2 ad2 σ2) (hE : ∀ E, ex E → E = sIOB ∨ E = sISE) : KW D l yL_sort (uwsW yL_sort cL_sort 5 (some .int) [(0, 10, 13, 13), (0, 10, 17, 15)]) (RM 10 40 400) [.ref (ad 0), .int x1, .int x2, .ref (ad 399)] (T, ad, cO D ad σ) (fun r S1 => (r = 0 ∧ ∃ (v : Int32) (T2 : List Nat) (ad2 : Nat → Nat) (σ2 : Mm), PP v T2 ad2 σ2 ∧ S1 = (T2, ad2, cO D ad2 (up σ2 99 0 v))) ∨ (r = 1 ∧ ex sIOB ∧ S1 = (T, ad, cO D ad σ)) ∨ (r = 2 ∧ ex sISE ∧ S1 = (T, ad, cO D ad σ))) 40 400 := by
  refine KW_of (own := RL) (L0 := [some (.ref (ad 0)), some (.int x1), some (.int x2), some (.ref (ad 399)), none]) (by decide +kernel) rfl (catc rfl (catc rfl (catc rfl (catc rfl cat0)))) (Nat.le_of_ble_eq_true rfl) rfl ?_
  intro p e s m args below meth c A C hNC
  refine r_aload3 (pc := 0) C dL_sort_0 ?_
  refine r_iconst (pc := 1) C (v := 0) dL_sort_1 (by decide) ?_
  refine r_aload0 (pc := 2) C dL_sort_2 ?_
  refine r_iload1 (pc := 3) C dL_sort_3 ?_
  refine r_iload2 (pc := 4) C dL_sort_4 ?_
  refine r_callVI (pc := 5) C hM ml_RL_27 im_X5_sort se_X5_sort ini_X5_sort cd_X5_sort hd_RL_27 (hT.f (k := 0) (by decide)) rfl rfl rfl rfl (Nat.le_of_ble_eq_true rfl) ⟨rfl, rfl⟩ (by decide) (by decide) dL_sort_5 (fun E ce q9 H1 locs1 ls hx hP hD hS hl h1 h2 h3 => ?_) ?_
  · rcases hE E hx with rfl | rfl
    · refine r_catch (name := sIOB) C hNC [] [⟨0, 10, 17, 15⟩] ⟨0, 10, 13, 13⟩ rfl (fun z hz => by cases hz) (by decide) (by decide) kl_RL_13 xn_IOB hP hD hS hl h1 h2 h3 ?_
      refine r_astore4 (pc := 13) C dL_sort_13 ?_
      refine r_iconst (pc := 15) C (v := 1) dL_sort_15 (by decide) ?_
      exact r_iret C rfl dL_sort_16 (Or.inr (Or.inl ⟨rfl, hx, rfl⟩)) (by decide) (by decide)
    · refine r_catch (name := sISE) C hNC [⟨0, 10, 13, 13⟩] [] ⟨0, 10, 17, 15⟩ rfl (fun z hz => by rw [List.mem_singleton.mp hz]; exact (Or.inr ⟨by decide, sIOB, kl_RL_13, by decide⟩)) (by decide) (by decide) kl_RL_15 xn_ISE hP hD hS hl h1 h2 h3 ?_
      refine r_astore4 (pc := 17) C dL_sort_17 ?_
      refine r_iconst (pc := 19) C (v := 2) dL_sort_19 (by decide) ?_
      exact r_iret C rfl dL_sort_20 (Or.inr (Or.inr ⟨rfl, hx, rfl⟩)) (by decide) (by decide)
  · intro v S1 hps
    obtain ⟨T2, ad2, σ2, rfl, h399, ha, hpp⟩ := hQ v S1 hps
    refine V_st (st2 := [.int v, .int 0, .ref (ad2 399)]) (by rw [ha]) ?_
    refine r_i2l (pc := 8) C dL_sort_8 ?_
    refine r_last (pc := 9) C (t := 399) (k := 0) (N := 1) (h := fun i => (σ2 99 i).toInt64) h399 rfl rfl (by decide) (by decide) (fun q => u_399 q) dL_sort_9 ?_
    refine r_goto (pc := 10) C (tgt := 21) dL_sort_10 (by decide) ?_
    refine r_iconst (pc := 21) C (v := 0) dL_sort_21 (by decide) ?_
    exact r_iret C rfl dL_sort_22 (Or.inl ⟨rfl, v, T2, ad2, σ2, hpp, rfl⟩) (by decide) (by decide)
theorem cdW_L_price : Cond.codeWith yL_price cL_price 6 (some .int) [(0, 12, 15, 13), (0, 12, 19, 21)] ∈ UW := UW_m (i := 413) (by decide +kernel) (by decide +kernel)
theorem st_L_price : Cond.static yL_price ∈ UW := UW_m (i := 412) (by decide +kernel) (by decide +kernel)
theorem ml_RL_115 : Cond.methodLink RL 115 yL_price ∈ UW := UW_m (i := 411) (by decide +kernel) (by decide +kernel)
theorem hd_RL_115 : yL_price.cls ≠ "java/lang/invoke/MethodHandle" ∧ yL_price.cls ≠ "java/lang/invoke/VarHandle" ∧ (parseMethodDescriptor yL_price.desc).map (fun d => d.parameters.length) = some 5 := ⟨by decide +kernel, by decide +kernel, by decide +kernel⟩
set_option maxRecDepth 100000 in
set_option maxHeartbeats 1000000 in
theorem c_L_price (l : Launch) (D : Gt) (T : List Nat) (ad : Nat → Nat) (σ : Mm) {nr ng : Nat} (hT : TG nr ng T) (x1 x2 x3 : Int32) {pst : Int32 → St → Prop} {ex : String → Prop} {PP : Int32 → List Nat → (Nat → Nat) → Mm → Prop} (hM : KI D l yX5_price (uws yX5_price cX5_price 5 (some .int)) (RM 9 40 400) [.ref (ad 0), .int x1, .int x2, .int x3] (T, ad, cO D ad σ) pst ex 40 400) (hQ : ∀ (v : Int32) (S0 : St), pst v S0 → ∃ (T2 : List Nat) (ad2 : Nat → Nat) (σ2 : Mm), S0 = (T2, ad2, cO D ad2 σ2) ∧ 399 ∈ T2 ∧ ad2 399 = ad 399 ∧ PP v T2 ad2 σ2) (hE : ∀ E, ex E → E = sIOB ∨ E = sIAE) : KW D l yL_price (uwsW yL_price cL_price 6 (some .int) [(0, 12, 15, 13), (0, 12, 19, 21)]) (RM 10 40 400) [.ref (ad 0), .int x1, .int x2, .int x3, .ref (ad 399)] (T, ad, cO D ad σ) (fun r S1 => (r = 0 ∧ ∃ (v : Int32) (T2 : List Nat) (ad2 : Nat → Nat) (σ2 : Mm), PP v T2 ad2 σ2 ∧ S1 = (T2, ad2, cO D ad2 (up σ2 99 0 v))) ∨ (r = 1 ∧ ex sIOB ∧ S1 = (T, ad, cO D ad σ)) ∨ (r = 2 ∧ ex sIAE ∧ S1 = (T, ad, cO D ad σ))) 40 400 := by
  refine KW_of (own := RL) (L0 := [some (.ref (ad 0)), some (.int x1), some (.int x2), some (.int x3), some (.ref (ad 399)), none]) (by decide +kernel) rfl (catc rfl (catc rfl (catc rfl (catc rfl (catc rfl cat0))))) (Nat.le_of_ble_eq_true rfl) rfl ?_
  intro p e s m args below meth c A C hNC
  refine r_aload4 (pc := 0) C dL_price_0 ?_
  refine r_iconst (pc := 2) C (v := 0) dL_price_2 (by decide) ?_
  refine r_aload0 (pc := 3) C dL_price_3 ?_
  refine r_iload1 (pc := 4) C dL_price_4 ?_
  refine r_iload2 (pc := 5) C dL_price_5 ?_
  refine r_iload3 (pc := 6) C dL_price_6 ?_
  refine r_callVI (pc := 7) C hM ml_RL_30 im_X5_price se_X5_price ini_X5_price cd_X5_price hd_RL_30 (hT.f (k := 0) (by decide)) rfl rfl rfl rfl (Nat.le_of_ble_eq_true rfl) ⟨rfl, rfl⟩ (by decide) (by decide) dL_price_7 (fun E ce q9 H1 locs1 ls hx hP hD hS hl h1 h2 h3 => ?_) ?_
  · rcases hE E hx with rfl | rfl
    · refine r_catch (name := sIOB) C hNC [] [⟨0, 12, 19, 21⟩] ⟨0, 12, 15, 13⟩ rfl (fun z hz => by cases hz) (by decide) (by decide) kl_RL_13 xn_IOB hP hD hS hl h1 h2 h3 ?_
      refine r_astore5 (pc := 15) C dL_price_15 ?_
      refine r_iconst (pc := 17) C (v := 1) dL_price_17 (by decide) ?_
      exact r_iret C rfl dL_price_18 (Or.inr (Or.inl ⟨rfl, hx, rfl⟩)) (by decide) (by decide)
    · refine r_catch (name := sIAE) C hNC [⟨0, 12, 15, 13⟩] [] ⟨0, 12, 19, 21⟩ rfl (fun z hz => by rw [List.mem_singleton.mp hz]; exact (Or.inr ⟨by decide, sIOB, kl_RL_13, by decide⟩)) (by decide) (by decide) kl_RL_21 xn_IAE hP hD hS hl h1 h2 h3 ?_
      refine r_astore5 (pc := 19) C dL_price_19 ?_
      refine r_iconst (pc := 21) C (v := 2) dL_price_21 (by decide) ?_
      exact r_iret C rfl dL_price_22 (Or.inr (Or.inr ⟨rfl, hx, rfl⟩)) (by decide) (by decide)
  · intro v S1 hps
    obtain ⟨T2, ad2, σ2, rfl, h399, ha, hpp⟩ := hQ v S1 hps
    refine V_st (st2 := [.int v, .int 0, .ref (ad2 399)]) (by rw [ha]) ?_
    refine r_i2l (pc := 10) C dL_price_10 ?_
    refine r_last (pc := 11) C (t := 399) (k := 0) (N := 1) (h := fun i => (σ2 99 i).toInt64) h399 rfl rfl (by decide) (by decide) (fun q => u_399 q) dL_price_11 ?_
    refine r_goto (pc := 12) C (tgt := 23) dL_price_12 (by decide) ?_
    refine r_iconst (pc := 23) C (v := 0) dL_price_23 (by decide) ?_
    exact r_iret C rfl dL_price_24 (Or.inl ⟨rfl, v, T2, ad2, σ2, hpp, rfl⟩) (by decide) (by decide)
theorem cdW_L_value : Cond.codeWith yL_value cL_value 4 (some .int) [(0, 9, 12, 13)] ∈ UW := UW_m (i := 430) (by decide +kernel) (by decide +kernel)
theorem st_L_value : Cond.static yL_value ∈ UW := UW_m (i := 429) (by decide +kernel) (by decide +kernel)
theorem ml_RL_119 : Cond.methodLink RL 119 yL_value ∈ UW := UW_m (i := 428) (by decide +kernel) (by decide +kernel)
theorem hd_RL_119 : yL_value.cls ≠ "java/lang/invoke/MethodHandle" ∧ yL_value.cls ≠ "java/lang/invoke/VarHandle" ∧ (parseMethodDescriptor yL_value.desc).map (fun d => d.parameters.length) = some 3 := ⟨by decide +kernel, by decide +kernel, by decide +kernel⟩
set_option maxRecDepth 100000 in
set_option maxHeartbeats 1000000 in
theorem c_L_value (l : Launch) (D : Gt) (T : List Nat) (ad : Nat → Nat) (σ : Mm) {nr ng : Nat} (hT : TG nr ng T) (x1 : Int32) {pst : Int32 → St → Prop} {ex : String → Prop} {PP : Int32 → List Nat → (Nat → Nat) → Mm → Prop} (hM : KI D l yX5_value (uws yX5_value cX5_value 2 (some .int)) (RM 9 40 400) [.ref (ad 0), .int x1] (T, ad, cO D ad σ) pst ex 40 400) (hQ : ∀ (v : Int32) (S0 : St), pst v S0 → ∃ (T2 : List Nat) (ad2 : Nat → Nat) (σ2 : Mm), S0 = (T2, ad2, cO D ad2 σ2) ∧ 399 ∈ T2 ∧ ad2 399 = ad 399 ∧ PP v T2 ad2 σ2) (hE : ∀ E, ex E → E = sIOB) : KW D l yL_value (uwsW yL_value cL_value 4 (some .int) [(0, 9, 12, 13)]) (RM 10 40 400) [.ref (ad 0), .int x1, .ref (ad 399)] (T, ad, cO D ad σ) (fun r S1 => (r = 0 ∧ ∃ (v : Int32) (T2 : List Nat) (ad2 : Nat → Nat) (σ2 : Mm), PP v T2 ad2 σ2 ∧ S1 = (T2, ad2, cO D ad2 (up σ2 99 0 v))) ∨ (r = 1 ∧ ex sIOB ∧ S1 = (T, ad, cO D ad σ))) 40 400 := by
  refine KW_of (own := RL) (L0 := [some (.ref (ad 0)), some (.int x1), some (.ref (ad 399)), none]) (by decide +kernel) rfl (catc rfl (catc rfl (catc rfl cat0))) (Nat.le_of_ble_eq_true rfl) rfl ?_
  intro p e s m args below meth c A C hNC
  refine r_aload2 (pc := 0) C dL_value_0 ?_
  refine r_iconst (pc := 1) C (v := 0) dL_value_1 (by decide) ?_
  refine r_aload0 (pc := 2) C dL_value_2 ?_
  refine r_iload1 (pc := 3) C dL_value_3 ?_
  refine r_callVI (pc := 4) C hM ml_RL_34 im_X5_value se_X5_value ini_X5_value cd_X5_value hd_RL_34 (hT.f (k := 0) (by decide)) rfl rfl rfl rfl (Nat.le_of_ble_eq_true rfl) ⟨rfl, rfl⟩ (by decide) (by decide) dL_value_4 (fun E ce q9 H1 locs1 ls hx hP hD hS hl h1 h2 h3 => ?_) ?_
  · have e1 := hE E hx
    subst e1
    refine r_catch (name := sIOB) C hNC [] [] ⟨0, 9, 12, 13⟩ rfl (fun z hz => by cases hz) (by decide) (by decide) kl_RL_13 xn_IOB hP hD hS hl h1 h2 h3 ?_
    refine r_astore3 (pc := 12) C dL_value_12 ?_
    refine r_iconst (pc := 13) C (v := 1) dL_value_13 (by decide) ?_
    exact r_iret C rfl dL_value_14 (Or.inr ⟨rfl, hx, rfl⟩) (by decide) (by decide)
  · intro v S1 hps
    obtain ⟨T2, ad2, σ2, rfl, h399, ha, hpp⟩ := hQ v S1 hps
    refine V_st (st2 := [.int v, .int 0, .ref (ad2 399)]) (by rw [ha]) ?_
    refine r_i2l (pc := 7) C dL_value_7 ?_
    refine r_last (pc := 8) C (t := 399) (k := 0) (N := 1) (h := fun i => (σ2 99 i).toInt64) h399 rfl rfl (by decide) (by decide) (fun q => u_399 q) dL_value_8 ?_
    refine r_goto (pc := 9) C (tgt := 15) dL_value_9 (by decide) ?_
    refine r_iconst (pc := 15) C (v := 0) dL_value_15 (by decide) ?_
    exact r_iret C rfl dL_value_16 (Or.inl ⟨rfl, v, T2, ad2, σ2, hpp, rfl⟩) (by decide) (by decide)
theorem cdW_L_stoneIs : Cond.codeWith yL_stoneIs cL_stoneIs 5 (some .int) [(0, 10, 13, 13), (0, 10, 17, 21)] ∈ UW := UW_m (i := 457) (by decide +kernel) (by decide +kernel)
theorem st_L_stoneIs : Cond.static yL_stoneIs ∈ UW := UW_m (i := 456) (by decide +kernel) (by decide +kernel)
theorem ml_RL_122 : Cond.methodLink RL 122 yL_stoneIs ∈ UW := UW_m (i := 455) (by decide +kernel) (by decide +kernel)
theorem hd_RL_122 : yL_stoneIs.cls ≠ "java/lang/invoke/MethodHandle" ∧ yL_stoneIs.cls ≠ "java/lang/invoke/VarHandle" ∧ (parseMethodDescriptor yL_stoneIs.desc).map (fun d => d.parameters.length) = some 4 := ⟨by decide +kernel, by decide +kernel, by decide +kernel⟩
set_option maxRecDepth 100000 in
set_option maxHeartbeats 1000000 in
theorem c_L_stoneIs (l : Launch) (D : Gt) (T : List Nat) (ad : Nat → Nat) (σ : Mm) {nr ng : Nat} (hT : TG nr ng T) (x1 x2 : Int32) {pst : Int32 → St → Prop} {ex : String → Prop} {PP : Int32 → List Nat → (Nat → Nat) → Mm → Prop} (hM : KI D l yX5_stoneIs (uws yX5_stoneIs cX5_stoneIs 4 (some .int)) (RM 9 40 400) [.ref (ad 0), .int x1, .int x2] (T, ad, cO D ad σ) pst ex 40 400) (hQ : ∀ (v : Int32) (S0 : St), pst v S0 → ∃ (T2 : List Nat) (ad2 : Nat → Nat) (σ2 : Mm), S0 = (T2, ad2, cO D ad2 σ2) ∧ 399 ∈ T2 ∧ ad2 399 = ad 399 ∧ PP v T2 ad2 σ2) (hE : ∀ E, ex E → E = sIOB ∨ E = sIAE) : KW D l yL_stoneIs (uwsW yL_stoneIs cL_stoneIs 5 (some .int) [(0, 10, 13, 13), (0, 10, 17, 21)]) (RM 10 40 400) [.ref (ad 0), .int x1, .int x2, .ref (ad 399)] (T, ad, cO D ad σ) (fun r S1 => (r = 0 ∧ ∃ (v : Int32) (T2 : List Nat) (ad2 : Nat → Nat) (σ2 : Mm), PP v T2 ad2 σ2 ∧ S1 = (T2, ad2, cO D ad2 (up σ2 99 0 v))) ∨ (r = 1 ∧ ex sIOB ∧ S1 = (T, ad, cO D ad σ)) ∨ (r = 2 ∧ ex sIAE ∧ S1 = (T, ad, cO D ad σ))) 40 400 := by
  refine KW_of (own := RL) (L0 := [some (.ref (ad 0)), some (.int x1), some (.int x2), some (.ref (ad 399)), none]) (by decide +kernel) rfl (catc rfl (catc rfl (catc rfl (catc rfl cat0)))) (Nat.le_of_ble_eq_true rfl) rfl ?_
  intro p e s m args below meth c A C hNC
  refine r_aload3 (pc := 0) C dL_stoneIs_0 ?_
  refine r_iconst (pc := 1) C (v := 0) dL_stoneIs_1 (by decide) ?_
  refine r_aload0 (pc := 2) C dL_stoneIs_2 ?_
  refine r_iload1 (pc := 3) C dL_stoneIs_3 ?_
  refine r_iload2 (pc := 4) C dL_stoneIs_4 ?_
  refine r_callVI (pc := 5) C hM ml_RL_37 im_X5_stoneIs se_X5_stoneIs ini_X5_stoneIs cd_X5_stoneIs hd_RL_37 (hT.f (k := 0) (by decide)) rfl rfl rfl rfl (Nat.le_of_ble_eq_true rfl) ⟨rfl, rfl⟩ (by decide) (by decide) dL_stoneIs_5 (fun E ce q9 H1 locs1 ls hx hP hD hS hl h1 h2 h3 => ?_) ?_
  · rcases hE E hx with rfl | rfl
    · refine r_catch (name := sIOB) C hNC [] [⟨0, 10, 17, 21⟩] ⟨0, 10, 13, 13⟩ rfl (fun z hz => by cases hz) (by decide) (by decide) kl_RL_13 xn_IOB hP hD hS hl h1 h2 h3 ?_
      refine r_astore4 (pc := 13) C dL_stoneIs_13 ?_
      refine r_iconst (pc := 15) C (v := 1) dL_stoneIs_15 (by decide) ?_
      exact r_iret C rfl dL_stoneIs_16 (Or.inr (Or.inl ⟨rfl, hx, rfl⟩)) (by decide) (by decide)
    · refine r_catch (name := sIAE) C hNC [⟨0, 10, 13, 13⟩] [] ⟨0, 10, 17, 21⟩ rfl (fun z hz => by rw [List.mem_singleton.mp hz]; exact (Or.inr ⟨by decide, sIOB, kl_RL_13, by decide⟩)) (by decide) (by decide) kl_RL_21 xn_IAE hP hD hS hl h1 h2 h3 ?_
      refine r_astore4 (pc := 17) C dL_stoneIs_17 ?_
      refine r_iconst (pc := 19) C (v := 2) dL_stoneIs_19 (by decide) ?_
      exact r_iret C rfl dL_stoneIs_20 (Or.inr (Or.inr ⟨rfl, hx, rfl⟩)) (by decide) (by decide)
  · intro v S1 hps
    obtain ⟨T2, ad2, σ2, rfl, h399, ha, hpp⟩ := hQ v S1 hps
    refine V_st (st2 := [.int v, .int 0, .ref (ad2 399)]) (by rw [ha]) ?_
    refine r_i2l (pc := 8) C dL_stoneIs_8 ?_
    refine r_last (pc := 9) C (t := 399) (k := 0) (N := 1) (h := fun i => (σ2 99 i).toInt64) h399 rfl rfl (by decide) (by decide) (fun q => u_399 q) dL_stoneIs_9 ?_
    refine r_goto (pc := 10) C (tgt := 21) dL_stoneIs_10 (by decide) ?_
    refine r_iconst (pc := 21) C (v := 0) dL_stoneIs_21 (by decide) ?_
    exact r_iret C rfl dL_stoneIs_22 (Or.inl ⟨rfl, v, T2, ad2, σ2, hpp, rfl⟩) (by decide) (by decide)
theorem cdW_L_boxes : Cond.codeWith yL_boxes cL_boxes 4 (some .int) [(0, 9, 12, 21)] ∈ UW := UW_m (i := 473) (by decide +kernel) (by decide +kernel)
theorem st_L_boxes : Cond.static yL_boxes ∈ UW := UW_m (i := 472) (by decide +kernel) (by decide +kernel)
theorem ml_RL_125 : Cond.methodLink RL 125 yL_boxes ∈ UW := UW_m (i := 471) (by decide +kernel) (by decide +kernel)
theorem hd_RL_125 : yL_boxes.cls ≠ "java/lang/invoke/MethodHandle" ∧ yL_boxes.cls ≠ "java/lang/invoke/VarHandle" ∧ (parseMethodDescriptor yL_boxes.desc).map (fun d => d.parameters.length) = some 3 := ⟨by decide +kernel, by decide +kernel, by decide +kernel⟩
set_option maxRecDepth 100000 in
set_option maxHeartbeats 1000000 in
theorem c_L_boxes (l : Launch) (D : Gt) (T : List Nat) (ad : Nat → Nat) (σ : Mm) {nr ng : Nat} (hT : TG nr ng T) (x1 : Int32) {pst : Int32 → St → Prop} {ex : String → Prop} {PP : Int32 → List Nat → (Nat → Nat) → Mm → Prop} (hM : KI D l yX5_boxes (uws yX5_boxes cX5_boxes 3 (some .int)) (RM 9 40 400) [.ref (ad 0), .int x1] (T, ad, cO D ad σ) pst ex 40 400) (hQ : ∀ (v : Int32) (S0 : St), pst v S0 → ∃ (T2 : List Nat) (ad2 : Nat → Nat) (σ2 : Mm), S0 = (T2, ad2, cO D ad2 σ2) ∧ 399 ∈ T2 ∧ ad2 399 = ad 399 ∧ PP v T2 ad2 σ2) (hE : ∀ E, ex E → E = sIAE) : KW D l yL_boxes (uwsW yL_boxes cL_boxes 4 (some .int) [(0, 9, 12, 21)]) (RM 10 40 400) [.ref (ad 0), .int x1, .ref (ad 399)] (T, ad, cO D ad σ) (fun r S1 => (r = 0 ∧ ∃ (v : Int32) (T2 : List Nat) (ad2 : Nat → Nat) (σ2 : Mm), PP v T2 ad2 σ2 ∧ S1 = (T2, ad2, cO D ad2 (up σ2 99 0 v))) ∨ (r = 1 ∧ ex sIAE ∧ S1 = (T, ad, cO D ad σ))) 40 400 := by
  refine KW_of (own := RL) (L0 := [some (.ref (ad 0)), some (.int x1), some (.ref (ad 399)), none]) (by decide +kernel) rfl (catc rfl (catc rfl (catc rfl cat0))) (Nat.le_of_ble_eq_true rfl) rfl ?_
  intro p e s m args below meth c A C hNC
  refine r_aload2 (pc := 0) C dL_boxes_0 ?_
  refine r_iconst (pc := 1) C (v := 0) dL_boxes_1 (by decide) ?_
  refine r_aload0 (pc := 2) C dL_boxes_2 ?_
  refine r_iload1 (pc := 3) C dL_boxes_3 ?_
  refine r_callVI (pc := 4) C hM ml_RL_40 im_X5_boxes se_X5_boxes ini_X5_boxes cd_X5_boxes hd_RL_40 (hT.f (k := 0) (by decide)) rfl rfl rfl rfl (Nat.le_of_ble_eq_true rfl) ⟨rfl, rfl⟩ (by decide) (by decide) dL_boxes_4 (fun E ce q9 H1 locs1 ls hx hP hD hS hl h1 h2 h3 => ?_) ?_
  · have e1 := hE E hx
    subst e1
    refine r_catch (name := sIAE) C hNC [] [] ⟨0, 9, 12, 21⟩ rfl (fun z hz => by cases hz) (by decide) (by decide) kl_RL_21 xn_IAE hP hD hS hl h1 h2 h3 ?_
    refine r_astore3 (pc := 12) C dL_boxes_12 ?_
    refine r_iconst (pc := 13) C (v := 1) dL_boxes_13 (by decide) ?_
    exact r_iret C rfl dL_boxes_14 (Or.inr ⟨rfl, hx, rfl⟩) (by decide) (by decide)
  · intro v S1 hps
    obtain ⟨T2, ad2, σ2, rfl, h399, ha, hpp⟩ := hQ v S1 hps
    refine V_st (st2 := [.int v, .int 0, .ref (ad2 399)]) (by rw [ha]) ?_
    refine r_i2l (pc := 7) C dL_boxes_7 ?_
    refine r_last (pc := 8) C (t := 399) (k := 0) (N := 1) (h := fun i => (σ2 99 i).toInt64) h399 rfl rfl (by decide) (by decide) (fun q => u_399 q) dL_boxes_8 ?_
    refine r_goto (pc := 9) C (tgt := 15) dL_boxes_9 (by decide) ?_
    refine r_iconst (pc := 15) C (v := 0) dL_boxes_15 (by decide) ?_
    exact r_iret C rfl dL_boxes_16 (Or.inl ⟨rfl, v, T2, ad2, σ2, hpp, rfl⟩) (by decide) (by decide)
theorem cdW_L_boxValue : Cond.codeWith yL_boxValue cL_boxValue 4 (some .int) [(0, 9, 12, 13)] ∈ UW := UW_m (i := 533) (by decide +kernel) (by decide +kernel)
theorem st_L_boxValue : Cond.static yL_boxValue ∈ UW := UW_m (i := 532) (by decide +kernel) (by decide +kernel)
theorem ml_RL_128 : Cond.methodLink RL 128 yL_boxValue ∈ UW := UW_m (i := 531) (by decide +kernel) (by decide +kernel)
theorem hd_RL_128 : yL_boxValue.cls ≠ "java/lang/invoke/MethodHandle" ∧ yL_boxValue.cls ≠ "java/lang/invoke/VarHandle" ∧ (parseMethodDescriptor yL_boxValue.desc).map (fun d => d.parameters.length) = some 3 := ⟨by decide +kernel, by decide +kernel, by decide +kernel⟩
set_option maxRecDepth 100000 in
set_option maxHeartbeats 1000000 in
theorem c_L_boxValue (l : Launch) (D : Gt) (T : List Nat) (ad : Nat → Nat) (σ : Mm) {nr ng : Nat} (hT : TG nr ng T) (x1 : Int32) {pst : Int32 → St → Prop} {ex : String → Prop} {PP : Int32 → List Nat → (Nat → Nat) → Mm → Prop} (hM : KI D l yX5_boxValue (uws yX5_boxValue cX5_boxValue 7 (some .int)) (RM 9 40 400) [.ref (ad 0), .int x1] (T, ad, cO D ad σ) pst ex 40 400) (hQ : ∀ (v : Int32) (S0 : St), pst v S0 → ∃ (T2 : List Nat) (ad2 : Nat → Nat) (σ2 : Mm), S0 = (T2, ad2, cO D ad2 σ2) ∧ 399 ∈ T2 ∧ ad2 399 = ad 399 ∧ PP v T2 ad2 σ2) (hE : ∀ E, ex E → E = sIOB) : KW D l yL_boxValue (uwsW yL_boxValue cL_boxValue 4 (some .int) [(0, 9, 12, 13)]) (RM 10 40 400) [.ref (ad 0), .int x1, .ref (ad 399)] (T, ad, cO D ad σ) (fun r S1 => (r = 0 ∧ ∃ (v : Int32) (T2 : List Nat) (ad2 : Nat → Nat) (σ2 : Mm), PP v T2 ad2 σ2 ∧ S1 = (T2, ad2, cO D ad2 (up σ2 99 0 v))) ∨ (r = 1 ∧ ex sIOB ∧ S1 = (T, ad, cO D ad σ))) 40 400 := by
  refine KW_of (own := RL) (L0 := [some (.ref (ad 0)), some (.int x1), some (.ref (ad 399)), none]) (by decide +kernel) rfl (catc rfl (catc rfl (catc rfl cat0))) (Nat.le_of_ble_eq_true rfl) rfl ?_
  intro p e s m args below meth c A C hNC
  refine r_aload2 (pc := 0) C dL_boxValue_0 ?_
  refine r_iconst (pc := 1) C (v := 0) dL_boxValue_1 (by decide) ?_
  refine r_aload0 (pc := 2) C dL_boxValue_2 ?_
  refine r_iload1 (pc := 3) C dL_boxValue_3 ?_
  refine r_callVI (pc := 4) C hM ml_RL_43 im_X5_boxValue se_X5_boxValue ini_X5_boxValue cd_X5_boxValue hd_RL_43 (hT.f (k := 0) (by decide)) rfl rfl rfl rfl (Nat.le_of_ble_eq_true rfl) ⟨rfl, rfl⟩ (by decide) (by decide) dL_boxValue_4 (fun E ce q9 H1 locs1 ls hx hP hD hS hl h1 h2 h3 => ?_) ?_
  · have e1 := hE E hx
    subst e1
    refine r_catch (name := sIOB) C hNC [] [] ⟨0, 9, 12, 13⟩ rfl (fun z hz => by cases hz) (by decide) (by decide) kl_RL_13 xn_IOB hP hD hS hl h1 h2 h3 ?_
    refine r_astore3 (pc := 12) C dL_boxValue_12 ?_
    refine r_iconst (pc := 13) C (v := 1) dL_boxValue_13 (by decide) ?_
    exact r_iret C rfl dL_boxValue_14 (Or.inr ⟨rfl, hx, rfl⟩) (by decide) (by decide)
  · intro v S1 hps
    obtain ⟨T2, ad2, σ2, rfl, h399, ha, hpp⟩ := hQ v S1 hps
    refine V_st (st2 := [.int v, .int 0, .ref (ad2 399)]) (by rw [ha]) ?_
    refine r_i2l (pc := 7) C dL_boxValue_7 ?_
    refine r_last (pc := 8) C (t := 399) (k := 0) (N := 1) (h := fun i => (σ2 99 i).toInt64) h399 rfl rfl (by decide) (by decide) (fun q => u_399 q) dL_boxValue_8 ?_
    refine r_goto (pc := 9) C (tgt := 15) dL_boxValue_9 (by decide) ?_
    refine r_iconst (pc := 15) C (v := 0) dL_boxValue_15 (by decide) ?_
    exact r_iret C rfl dL_boxValue_16 (Or.inl ⟨rfl, v, T2, ad2, σ2, hpp, rfl⟩) (by decide) (by decide)
theorem cdW_L_offered : Cond.codeWith yL_offered cL_offered 4 (some .int) [(0, 9, 12, 13)] ∈ UW := UW_m (i := 540) (by decide +kernel) (by decide +kernel)
theorem st_L_offered : Cond.static yL_offered ∈ UW := UW_m (i := 539) (by decide +kernel) (by decide +kernel)
theorem ml_RL_131 : Cond.methodLink RL 131 yL_offered ∈ UW := UW_m (i := 538) (by decide +kernel) (by decide +kernel)
theorem hd_RL_131 : yL_offered.cls ≠ "java/lang/invoke/MethodHandle" ∧ yL_offered.cls ≠ "java/lang/invoke/VarHandle" ∧ (parseMethodDescriptor yL_offered.desc).map (fun d => d.parameters.length) = some 3 := ⟨by decide +kernel, by decide +kernel, by decide +kernel⟩
set_option maxRecDepth 100000 in
set_option maxHeartbeats 1000000 in
theorem c_L_offered (l : Launch) (D : Gt) (T : List Nat) (ad : Nat → Nat) (σ : Mm) {nr ng : Nat} (hT : TG nr ng T) (x1 : Int32) {pst : Int32 → St → Prop} {ex : String → Prop} {PP : Int32 → List Nat → (Nat → Nat) → Mm → Prop} (hM : KI D l yX5_offered (uws yX5_offered cX5_offered 2 (some .int)) (RM 9 40 400) [.ref (ad 0), .int x1] (T, ad, cO D ad σ) pst ex 40 400) (hQ : ∀ (v : Int32) (S0 : St), pst v S0 → ∃ (T2 : List Nat) (ad2 : Nat → Nat) (σ2 : Mm), S0 = (T2, ad2, cO D ad2 σ2) ∧ 399 ∈ T2 ∧ ad2 399 = ad 399 ∧ PP v T2 ad2 σ2) (hE : ∀ E, ex E → E = sIOB) : KW D l yL_offered (uwsW yL_offered cL_offered 4 (some .int) [(0, 9, 12, 13)]) (RM 10 40 400) [.ref (ad 0), .int x1, .ref (ad 399)] (T, ad, cO D ad σ) (fun r S1 => (r = 0 ∧ ∃ (v : Int32) (T2 : List Nat) (ad2 : Nat → Nat) (σ2 : Mm), PP v T2 ad2 σ2 ∧ S1 = (T2, ad2, cO D ad2 (up σ2 99 0 v))) ∨ (r = 1 ∧ ex sIOB ∧ S1 = (T, ad, cO D ad σ))) 40 400 := by
  refine KW_of (own := RL) (L0 := [some (.ref (ad 0)), some (.int x1), some (.ref (ad 399)), none]) (by decide +kernel) rfl (catc rfl (catc rfl (catc rfl cat0))) (Nat.le_of_ble_eq_true rfl) rfl ?_
  intro p e s m args below meth c A C hNC
  refine r_aload2 (pc := 0) C dL_offered_0 ?_
  refine r_iconst (pc := 1) C (v := 0) dL_offered_1 (by decide) ?_
  refine r_aload0 (pc := 2) C dL_offered_2 ?_
  refine r_iload1 (pc := 3) C dL_offered_3 ?_
  refine r_callVI (pc := 4) C hM ml_RL_46 im_X5_offered se_X5_offered ini_X5_offered cd_X5_offered hd_RL_46 (hT.f (k := 0) (by decide)) rfl rfl rfl rfl (Nat.le_of_ble_eq_true rfl) ⟨rfl, rfl⟩ (by decide) (by decide) dL_offered_4 (fun E ce q9 H1 locs1 ls hx hP hD hS hl h1 h2 h3 => ?_) ?_
  · have e1 := hE E hx
    subst e1
    refine r_catch (name := sIOB) C hNC [] [] ⟨0, 9, 12, 13⟩ rfl (fun z hz => by cases hz) (by decide) (by decide) kl_RL_13 xn_IOB hP hD hS hl h1 h2 h3 ?_
    refine r_astore3 (pc := 12) C dL_offered_12 ?_
    refine r_iconst (pc := 13) C (v := 1) dL_offered_13 (by decide) ?_
    exact r_iret C rfl dL_offered_14 (Or.inr ⟨rfl, hx, rfl⟩) (by decide) (by decide)
  · intro v S1 hps
    obtain ⟨T2, ad2, σ2, rfl, h399, ha, hpp⟩ := hQ v S1 hps
    refine V_st (st2 := [.int v, .int 0, .ref (ad2 399)]) (by rw [ha]) ?_
    refine r_i2l (pc := 7) C dL_offered_7 ?_
    refine r_last (pc := 8) C (t := 399) (k := 0) (N := 1) (h := fun i => (σ2 99 i).toInt64) h399 rfl rfl (by decide) (by decide) (fun q => u_399 q) dL_offered_8 ?_
    refine r_goto (pc := 9) C (tgt := 15) dL_offered_9 (by decide) ?_
    refine r_iconst (pc := 15) C (v := 0) dL_offered_15 (by decide) ?_
    exact r_iret C rfl dL_offered_16 (Or.inl ⟨rfl, v, T2, ad2, σ2, hpp, rfl⟩) (by decide) (by decide)
theorem cdW_L_take : Cond.codeWith yL_take cL_take 5 (some .int) [(0, 10, 13, 13), (0, 10, 17, 15)] ∈ UW := UW_m (i := 547) (by decide +kernel) (by decide +kernel)
theorem st_L_take : Cond.static yL_take ∈ UW := UW_m (i := 546) (by decide +kernel) (by decide +kernel)
theorem ml_RL_134 : Cond.methodLink RL 134 yL_take ∈ UW := UW_m (i := 545) (by decide +kernel) (by decide +kernel)
theorem hd_RL_134 : yL_take.cls ≠ "java/lang/invoke/MethodHandle" ∧ yL_take.cls ≠ "java/lang/invoke/VarHandle" ∧ (parseMethodDescriptor yL_take.desc).map (fun d => d.parameters.length) = some 4 := ⟨by decide +kernel, by decide +kernel, by decide +kernel⟩
set_option maxRecDepth 100000 in
set_option maxHeartbeats 1000000 in
theorem c_L_take (l : Launch) (D : Gt) (T : List Nat) (ad : Nat → Nat) (σ : Mm) {nr ng : Nat} (hT : TG nr ng T) (x1 x2 : Int32) {pst : Int32 → St → Prop} {ex : String → Prop} {PP : Int32 → List Nat → (Nat → Nat) → Mm → Prop} (hM : KI D l yX5_take (uws yX5_take cX5_take 8 (some .int)) (RM 9 40 400) [.ref (ad 0), .int x1, .int x2] (T, ad, cO D ad σ) pst ex 40 400) (hQ : ∀ (v : Int32) (S0 : St), pst v S0 → ∃ (T2 : List Nat) (ad2 : Nat → Nat) (σ2 : Mm), S0 = (T2, ad2, cO D ad2 σ2) ∧ 399 ∈ T2 ∧ ad2 399 = ad 399 ∧ PP v T2 ad2 σ2) (hE : ∀ E, ex E → E = sIOB ∨ E = sISE) : KW D l yL_take (uwsW yL_take cL_take 5 (some .int) [(0, 10, 13, 13), (0, 10, 17, 15)]) (RM 10 40 400) [.ref (ad 0), .int x1, .int x2, .ref (ad 399)] (T, ad, cO D ad σ) (fun r S1 => (r = 0 ∧ ∃ (v : Int32) (T2 : List Nat) (ad2 : Nat → Nat) (σ2 : Mm), PP v T2 ad2 σ2 ∧ S1 = (T2, ad2, cO D ad2 (up σ2 99 0 v))) ∨ (r = 1 ∧ ex sIOB ∧ S1 = (T, ad, cO D ad σ)) ∨ (r = 2 ∧ ex sISE ∧ S1 = (T, ad, cO D ad σ))) 40 400 := by
  refine KW_of (own := RL) (L0 := [some (.ref (ad 0)), some (.int x1), some (.int x2), some (.ref (ad 399)), none]) (by decide +kernel) rfl (catc rfl (catc rfl (catc rfl (catc rfl cat0)))) (Nat.le_of_ble_eq_true rfl) rfl ?_
  intro p e s m args below meth c A C hNC
  refine r_aload3 (pc := 0) C dL_take_0 ?_
  refine r_iconst (pc := 1) C (v := 0) dL_take_1 (by decide) ?_
  refine r_aload0 (pc := 2) C dL_take_2 ?_
  refine r_iload1 (pc := 3) C dL_take_3 ?_
  refine r_iload2 (pc := 4) C dL_take_4 ?_
  refine r_callVI (pc := 5) C hM ml_RL_49 im_X5_take se_X5_take ini_X5_take cd_X5_take hd_RL_49 (hT.f (k := 0) (by decide)) rfl rfl rfl rfl (Nat.le_of_ble_eq_true rfl) ⟨rfl, rfl⟩ (by decide) (by decide) dL_take_5 (fun E ce q9 H1 locs1 ls hx hP hD hS hl h1 h2 h3 => ?_) ?_
  · rcases hE E hx with rfl | rfl
    · refine r_catch (name := sIOB) C hNC [] [⟨0, 10, 17, 15⟩] ⟨0, 10, 13, 13⟩ rfl (fun z hz => by cases hz) (by decide) (by decide) kl_RL_13 xn_IOB hP hD hS hl h1 h2 h3 ?_
      refine r_astore4 (pc := 13) C dL_take_13 ?_
      refine r_iconst (pc := 15) C (v := 1) dL_take_15 (by decide) ?_
      exact r_iret C rfl dL_take_16 (Or.inr (Or.inl ⟨rfl, hx, rfl⟩)) (by decide) (by decide)
    · refine r_catch (name := sISE) C hNC [⟨0, 10, 13, 13⟩] [] ⟨0, 10, 17, 15⟩ rfl (fun z hz => by rw [List.mem_singleton.mp hz]; exact (Or.inr ⟨by decide, sIOB, kl_RL_13, by decide⟩)) (by decide) (by decide) kl_RL_15 xn_ISE hP hD hS hl h1 h2 h3 ?_
      refine r_astore4 (pc := 17) C dL_take_17 ?_
      refine r_iconst (pc := 19) C (v := 2) dL_take_19 (by decide) ?_
      exact r_iret C rfl dL_take_20 (Or.inr (Or.inr ⟨rfl, hx, rfl⟩)) (by decide) (by decide)
  · intro v S1 hps
    obtain ⟨T2, ad2, σ2, rfl, h399, ha, hpp⟩ := hQ v S1 hps
    refine V_st (st2 := [.int v, .int 0, .ref (ad2 399)]) (by rw [ha]) ?_
    refine r_i2l (pc := 8) C dL_take_8 ?_
    refine r_last (pc := 9) C (t := 399) (k := 0) (N := 1) (h := fun i => (σ2 99 i).toInt64) h399 rfl rfl (by decide) (by decide) (fun q => u_399 q) dL_take_9 ?_
    refine r_goto (pc := 10) C (tgt := 21) dL_take_10 (by decide) ?_
    refine r_iconst (pc := 21) C (v := 0) dL_take_21 (by decide) ?_
    exact r_iret C rfl dL_take_22 (Or.inl ⟨rfl, v, T2, ad2, σ2, hpp, rfl⟩) (by decide) (by decide)
theorem cdW_L_tender : Cond.codeWith yL_tender cL_tender 4 (some .int) [(0, 6, 9, 13), (0, 6, 12, 21), (0, 6, 15, 15)] ∈ UW := UW_m (i := 563) (by decide +kernel) (by decide +kernel)
theorem st_L_tender : Cond.static yL_tender ∈ UW := UW_m (i := 562) (by decide +kernel) (by decide +kernel)
theorem ml_RL_138 : Cond.methodLink RL 138 yL_tender ∈ UW := UW_m (i := 561) (by decide +kernel) (by decide +kernel)
theorem hd_RL_138 : yL_tender.cls ≠ "java/lang/invoke/MethodHandle" ∧ yL_tender.cls ≠ "java/lang/invoke/VarHandle" ∧ (parseMethodDescriptor yL_tender.desc).map (fun d => d.parameters.length) = some 3 := ⟨by decide +kernel, by decide +kernel, by decide +kernel⟩
set_option maxRecDepth 100000 in
set_option maxHeartbeats 1000000 in
theorem c_L_tender (l : Launch) (D : Gt) (T : List Nat) (ad : Nat → Nat) (σ : Mm) {nr ng : Nat} (hT : TG nr ng T) (x1 x2 : Int32) {pst : St → Prop} {ex : String → Prop} {PP : Mm → Prop} (hM : KV D l yX5_tender (uws yX5_tender cX5_tender 4 none) (RM 9 40 400) [.ref (ad 0), .int x1, .int x2] (T, ad, cO D ad σ) pst ex 40 400) (hQ : ∀ S0 : St, pst S0 → ∃ σ2 : Mm, S0 = (T, ad, cO D ad σ2) ∧ PP σ2) (hE : ∀ E, ex E → E = sIOB ∨ E = sIAE ∨ E = sISE) : KW D l yL_tender (uwsW yL_tender cL_tender 4 (some .int) [(0, 6, 9, 13), (0, 6, 12, 21), (0, 6, 15, 15)]) (RM 10 40 400) [.ref (ad 0), .int x1, .int x2] (T, ad, cO D ad σ) (fun r S1 => (r = 0 ∧ ∃ σ2 : Mm, PP σ2 ∧ S1 = (T, ad, cO D ad σ2)) ∨ (r = 1 ∧ ex sIOB ∧ S1 = (T, ad, cO D ad σ)) ∨ (r = 2 ∧ ex sIAE ∧ S1 = (T, ad, cO D ad σ)) ∨ (r = 3 ∧ ex sISE ∧ S1 = (T, ad, cO D ad σ))) 40 400 := by
  refine KW_of (own := RL) (L0 := [some (.ref (ad 0)), some (.int x1), some (.int x2), none]) (by decide +kernel) rfl (catc rfl (catc rfl (catc rfl cat0))) (Nat.le_of_ble_eq_true rfl) rfl ?_
  intro p e s m args below meth c A C hNC
  refine r_aload0 (pc := 0) C dL_tender_0 ?_
  refine r_iload1 (pc := 1) C dL_tender_1 ?_
  refine r_iload2 (pc := 2) C dL_tender_2 ?_
  refine r_callVV (pc := 3) C hM ml_RL_53 im_X5_tender se_X5_tender ini_X5_tender cd_X5_tender hd_RL_53 (hT.f (k := 0) (by decide)) rfl rfl rfl rfl (Nat.le_of_ble_eq_true rfl) ⟨rfl, rfl⟩ (by decide) (by decide) dL_tender_3 (fun E ce q9 H1 locs1 ls hx hP hD hS hl h1 h2 h3 => ?_) ?_
  · rcases hE E hx with rfl | rfl | rfl
    · refine r_catch (name := sIOB) C hNC [] [⟨0, 6, 12, 21⟩, ⟨0, 6, 15, 15⟩] ⟨0, 6, 9, 13⟩ rfl (fun z hz => by cases hz) (by decide) (by decide) kl_RL_13 xn_IOB hP hD hS hl h1 h2 h3 ?_
      refine r_astore3 (pc := 9) C dL_tender_9 ?_
      refine r_iconst (pc := 10) C (v := 1) dL_tender_10 (by decide) ?_
      exact r_iret C rfl dL_tender_11 (Or.inr (Or.inl ⟨rfl, hx, rfl⟩)) (by decide) (by decide)
    · refine r_catch (name := sIAE) C hNC [⟨0, 6, 9, 13⟩] [⟨0, 6, 15, 15⟩] ⟨0, 6, 12, 21⟩ rfl (fun z hz => by rw [List.mem_singleton.mp hz]; exact (Or.inr ⟨by decide, sIOB, kl_RL_13, by decide⟩)) (by decide) (by decide) kl_RL_21 xn_IAE hP hD hS hl h1 h2 h3 ?_
      refine r_astore3 (pc := 12) C dL_tender_12 ?_
      refine r_iconst (pc := 13) C (v := 2) dL_tender_13 (by decide) ?_
      exact r_iret C rfl dL_tender_14 (Or.inr (Or.inr (Or.inl ⟨rfl, hx, rfl⟩))) (by decide) (by decide)
    · refine r_catch (name := sISE) C hNC [⟨0, 6, 9, 13⟩, ⟨0, 6, 12, 21⟩] [] ⟨0, 6, 15, 15⟩ rfl (fun z hz => by
          rcases List.mem_cons.mp hz with q | q
          · rw [q]; exact (Or.inr ⟨by decide, sIOB, kl_RL_13, by decide⟩)
          · rw [List.mem_singleton.mp q]; exact (Or.inr ⟨by decide, sIAE, kl_RL_21, by decide⟩)) (by decide) (by decide) kl_RL_15 xn_ISE hP hD hS hl h1 h2 h3 ?_
      refine r_astore3 (pc := 15) C dL_tender_15 ?_
      refine r_iconst (pc := 16) C (v := 3) dL_tender_16 (by decide) ?_
      exact r_iret C rfl dL_tender_17 (Or.inr (Or.inr (Or.inr ⟨rfl, hx, rfl⟩))) (by decide) (by decide)
  · intro S1 hps
    obtain ⟨σ2, rfl, hpp⟩ := hQ S1 hps
    refine r_goto (pc := 6) C (tgt := 18) dL_tender_6 (by decide) ?_
    refine r_iconst (pc := 18) C (v := 0) dL_tender_18 (by decide) ?_
    exact r_iret C rfl dL_tender_19 (Or.inl ⟨rfl, σ2, hpp, rfl⟩) (by decide) (by decide)
theorem cdW_L_bid : Cond.codeWith yL_bid cL_bid 5 (some .int) [(0, 10, 13, 13), (0, 10, 17, 21), (0, 10, 21, 15)] ∈ UW := UW_m (i := 581) (by decide +kernel) (by decide +kernel)
theorem st_L_bid : Cond.static yL_bid ∈ UW := UW_m (i := 580) (by decide +kernel) (by decide +kernel)
theorem ml_RL_142 : Cond.methodLink RL 142 yL_bid ∈ UW := UW_m (i := 579) (by decide +kernel) (by decide +kernel)
theorem hd_RL_142 : yL_bid.cls ≠ "java/lang/invoke/MethodHandle" ∧ yL_bid.cls ≠ "java/lang/invoke/VarHandle" ∧ (parseMethodDescriptor yL_bid.desc).map (fun d => d.parameters.length) = some 4 := ⟨by decide +kernel, by decide +kernel, by decide +kernel⟩
set_option maxRecDepth 100000 in
set_option maxHeartbeats 1000000 in
theorem c_L_bid (l : Launch) (D : Gt) (T : List Nat) (ad : Nat → Nat) (σ : Mm) {nr ng : Nat} (hT : TG nr ng T) (x1 x2 : Int32) {pst : Int32 → St → Prop} {ex : String → Prop} {PP : Int32 → List Nat → (Nat → Nat) → Mm → Prop} (hM : KI D l yX5_bid (uws yX5_bid cX5_bid 4 (some .int)) (RM 9 40 400) [.ref (ad 0), .int x1, .int x2] (T, ad, cO D ad σ) pst ex 40 400) (hQ : ∀ (v : Int32) (S0 : St), pst v S0 → ∃ (T2 : List Nat) (ad2 : Nat → Nat) (σ2 : Mm), S0 = (T2, ad2, cO D ad2 σ2) ∧ 399 ∈ T2 ∧ ad2 399 = ad 399 ∧ PP v T2 ad2 σ2) (hE : ∀ E, ex E → E = sIOB ∨ E = sIAE ∨ E = sISE) : KW D l yL_bid (uwsW yL_bid cL_bid 5 (some .int) [(0, 10, 13, 13), (0, 10, 17, 21), (0, 10, 21, 15)]) (RM 10 40 400) [.ref (ad 0), .int x1, .int x2, .ref (ad 399)] (T, ad, cO D ad σ) (fun r S1 => (r = 0 ∧ ∃ (v : Int32) (T2 : List Nat) (ad2 : Nat → Nat) (σ2 : Mm), PP v T2 ad2 σ2 ∧ S1 = (T2, ad2, cO D ad2 (up σ2 99 0 v))) ∨ (r = 1 ∧ ex sIOB ∧ S1 = (T, ad, cO D ad σ)) ∨ (r = 2 ∧ ex sIAE ∧ S1 = (T, ad, cO D ad σ)) ∨ (r = 3 ∧ ex sISE ∧ S1 = (T, ad, cO D ad σ))) 40 400 := by
  refine KW_of (own := RL) (L0 := [some (.ref (ad 0)), some (.int x1), some (.int x2), some (.ref (ad 399)), none]) (by decide +kernel) rfl (catc rfl (catc rfl (catc rfl (catc rfl cat0)))) (Nat.le_of_ble_eq_true rfl) rfl ?_
  intro p e s m args below meth c A C hNC
  refine r_aload3 (pc := 0) C dL_bid_0 ?_
  refine r_iconst (pc := 1) C (v := 0) dL_bid_1 (by decide) ?_
  refine r_aload0 (pc := 2) C dL_bid_2 ?_
  refine r_iload1 (pc := 3) C dL_bid_3 ?_
  refine r_iload2 (pc := 4) C dL_bid_4 ?_
  refine r_callVI (pc := 5) C hM ml_RL_57 im_X5_bid se_X5_bid ini_X5_bid cd_X5_bid hd_RL_57 (hT.f (k := 0) (by decide)) rfl rfl rfl rfl (Nat.le_of_ble_eq_true rfl) ⟨rfl, rfl⟩ (by decide) (by decide) dL_bid_5 (fun E ce q9 H1 locs1 ls hx hP hD hS hl h1 h2 h3 => ?_) ?_
  · rcases hE E hx with rfl | rfl | rfl
    · refine r_catch (name := sIOB) C hNC [] [⟨0, 10, 17, 21⟩, ⟨0, 10, 21, 15⟩] ⟨0, 10, 13, 13⟩ rfl (fun z hz => by cases hz) (by decide) (by decide) kl_RL_13 xn_IOB hP hD hS hl h1 h2 h3 ?_
      refine r_astore4 (pc := 13) C dL_bid_13 ?_
      refine r_iconst (pc := 15) C (v := 1) dL_bid_15 (by decide) ?_
      exact r_iret C rfl dL_bid_16 (Or.inr (Or.inl ⟨rfl, hx, rfl⟩)) (by decide) (by decide)
    · refine r_catch (name := sIAE) C hNC [⟨0, 10, 13, 13⟩] [⟨0, 10, 21, 15⟩] ⟨0, 10, 17, 21⟩ rfl (fun z hz => by rw [List.mem_singleton.mp hz]; exact (Or.inr ⟨by decide, sIOB, kl_RL_13, by decide⟩)) (by decide) (by decide) kl_RL_21 xn_IAE hP hD hS hl h1 h2 h3 ?_
      refine r_astore4 (pc := 17) C dL_bid_17 ?_
      refine r_iconst (pc := 19) C (v := 2) dL_bid_19 (by decide) ?_
      exact r_iret C rfl dL_bid_20 (Or.inr (Or.inr (Or.inl ⟨rfl, hx, rfl⟩))) (by decide) (by decide)
    · refine r_catch (name := sISE) C hNC [⟨0, 10, 13, 13⟩, ⟨0, 10, 17, 21⟩] [] ⟨0, 10, 21, 15⟩ rfl (fun z hz => by
          rcases List.mem_cons.mp hz with q | q
          · rw [q]; exact (Or.inr ⟨by decide, sIOB, kl_RL_13, by decide⟩)
          · rw [List.mem_singleton.mp q]; exact (Or.inr ⟨by decide, sIAE, kl_RL_21, by decide⟩)) (by decide) (by decide) kl_RL_15 xn_ISE hP hD hS hl h1 h2 h3 ?_
      refine r_astore4 (pc := 21) C dL_bid_21 ?_
      refine r_iconst (pc := 23) C (v := 3) dL_bid_23 (by decide) ?_
      exact r_iret C rfl dL_bid_24 (Or.inr (Or.inr (Or.inr ⟨rfl, hx, rfl⟩))) (by decide) (by decide)
  · intro v S1 hps
    obtain ⟨T2, ad2, σ2, rfl, h399, ha, hpp⟩ := hQ v S1 hps
    refine V_st (st2 := [.int v, .int 0, .ref (ad2 399)]) (by rw [ha]) ?_
    refine r_i2l (pc := 8) C dL_bid_8 ?_
    refine r_last (pc := 9) C (t := 399) (k := 0) (N := 1) (h := fun i => (σ2 99 i).toInt64) h399 rfl rfl (by decide) (by decide) (fun q => u_399 q) dL_bid_9 ?_
    refine r_goto (pc := 10) C (tgt := 25) dL_bid_10 (by decide) ?_
    refine r_iconst (pc := 25) C (v := 0) dL_bid_25 (by decide) ?_
    exact r_iret C rfl dL_bid_26 (Or.inl ⟨rfl, v, T2, ad2, σ2, hpp, rfl⟩) (by decide) (by decide)
theorem cdW_L_close : Cond.codeWith yL_close cL_close 3 (some .int) [(0, 8, 11, 15)] ∈ UW := UW_m (i := 598) (by decide +kernel) (by decide +kernel)
theorem st_L_close : Cond.static yL_close ∈ UW := UW_m (i := 597) (by decide +kernel) (by decide +kernel)
theorem ml_RL_145 : Cond.methodLink RL 145 yL_close ∈ UW := UW_m (i := 596) (by decide +kernel) (by decide +kernel)
theorem hd_RL_145 : yL_close.cls ≠ "java/lang/invoke/MethodHandle" ∧ yL_close.cls ≠ "java/lang/invoke/VarHandle" ∧ (parseMethodDescriptor yL_close.desc).map (fun d => d.parameters.length) = some 2 := ⟨by decide +kernel, by decide +kernel, by decide +kernel⟩
set_option maxRecDepth 100000 in
set_option maxHeartbeats 1000000 in
theorem c_L_close (l : Launch) (D : Gt) (T : List Nat) (ad : Nat → Nat) (σ : Mm) {nr ng : Nat} (hT : TG nr ng T) {pst : Int32 → St → Prop} {ex : String → Prop} {PP : Int32 → List Nat → (Nat → Nat) → Mm → Prop} (hM : KI D l yX5_close (uws yX5_close cX5_close 3 (some .int)) (RM 9 40 400) [.ref (ad 0)] (T, ad, cO D ad σ) pst ex 40 400) (hQ : ∀ (v : Int32) (S0 : St), pst v S0 → ∃ (T2 : List Nat) (ad2 : Nat → Nat) (σ2 : Mm), S0 = (T2, ad2, cO D ad2 σ2) ∧ 399 ∈ T2 ∧ ad2 399 = ad 399 ∧ PP v T2 ad2 σ2) (hE : ∀ E, ex E → E = sISE) : KW D l yL_close (uwsW yL_close cL_close 3 (some .int) [(0, 8, 11, 15)]) (RM 10 40 400) [.ref (ad 0), .ref (ad 399)] (T, ad, cO D ad σ) (fun r S1 => (r = 0 ∧ ∃ (v : Int32) (T2 : List Nat) (ad2 : Nat → Nat) (σ2 : Mm), PP v T2 ad2 σ2 ∧ S1 = (T2, ad2, cO D ad2 (up σ2 99 0 v))) ∨ (r = 1 ∧ ex sISE ∧ S1 = (T, ad, cO D ad σ))) 40 400 := by
  refine KW_of (own := RL) (L0 := [some (.ref (ad 0)), some (.ref (ad 399)), none]) (by decide +kernel) rfl (catc rfl (catc rfl cat0)) (Nat.le_of_ble_eq_true rfl) rfl ?_
  intro p e s m args below meth c A C hNC
  refine r_aload1 (pc := 0) C dL_close_0 ?_
  refine r_iconst (pc := 1) C (v := 0) dL_close_1 (by decide) ?_
  refine r_aload0 (pc := 2) C dL_close_2 ?_
  refine r_callVI (pc := 3) C hM ml_RL_60 im_X5_close se_X5_close ini_X5_close cd_X5_close hd_RL_60 (hT.f (k := 0) (by decide)) rfl rfl rfl rfl (Nat.le_of_ble_eq_true rfl) ⟨rfl, rfl⟩ (by decide) (by decide) dL_close_3 (fun E ce q9 H1 locs1 ls hx hP hD hS hl h1 h2 h3 => ?_) ?_
  · have e1 := hE E hx
    subst e1
    refine r_catch (name := sISE) C hNC [] [] ⟨0, 8, 11, 15⟩ rfl (fun z hz => by cases hz) (by decide) (by decide) kl_RL_15 xn_ISE hP hD hS hl h1 h2 h3 ?_
    refine r_astore2 (pc := 11) C dL_close_11 ?_
    refine r_iconst (pc := 12) C (v := 1) dL_close_12 (by decide) ?_
    exact r_iret C rfl dL_close_13 (Or.inr ⟨rfl, hx, rfl⟩) (by decide) (by decide)
  · intro v S1 hps
    obtain ⟨T2, ad2, σ2, rfl, h399, ha, hpp⟩ := hQ v S1 hps
    refine V_st (st2 := [.int v, .int 0, .ref (ad2 399)]) (by rw [ha]) ?_
    refine r_i2l (pc := 6) C dL_close_6 ?_
    refine r_last (pc := 7) C (t := 399) (k := 0) (N := 1) (h := fun i => (σ2 99 i).toInt64) h399 rfl rfl (by decide) (by decide) (fun q => u_399 q) dL_close_7 ?_
    refine r_goto (pc := 8) C (tgt := 14) dL_close_8 (by decide) ?_
    refine r_iconst (pc := 14) C (v := 0) dL_close_14 (by decide) ?_
    exact r_iret C rfl dL_close_15 (Or.inl ⟨rfl, v, T2, ad2, σ2, hpp, rfl⟩) (by decide) (by decide)
theorem cdW_L_plan : Cond.codeWith yL_plan cL_plan 4 (some .int) [(0, 9, 12, 13)] ∈ UW := UW_m (i := 618) (by decide +kernel) (by decide +kernel)
theorem st_L_plan : Cond.static yL_plan ∈ UW := UW_m (i := 617) (by decide +kernel) (by decide +kernel)
theorem ml_RL_149 : Cond.methodLink RL 149 yL_plan ∈ UW := UW_m (i := 616) (by decide +kernel) (by decide +kernel)
theorem hd_RL_149 : yL_plan.cls ≠ "java/lang/invoke/MethodHandle" ∧ yL_plan.cls ≠ "java/lang/invoke/VarHandle" ∧ (parseMethodDescriptor yL_plan.desc).map (fun d => d.parameters.length) = some 3 := ⟨by decide +kernel, by decide +kernel, by decide +kernel⟩
set_option maxRecDepth 100000 in
set_option maxHeartbeats 1000000 in
theorem c_L_plan (l : Launch) (D : Gt) (T : List Nat) (ad : Nat → Nat) (σ : Mm) {nr ng : Nat} (hT : TG nr ng T) (x1 : Int32) {pst : Int32 → St → Prop} {ex : String → Prop} {PP : Int32 → List Nat → (Nat → Nat) → Mm → Prop} (hM : KI D l yX5_plan (uws yX5_plan cX5_plan 6 (some .int)) (RM 9 40 400) [.ref (ad 0), .int x1] (T, ad, cO D ad σ) pst ex 40 400) (hQ : ∀ (v : Int32) (S0 : St), pst v S0 → ∃ (T2 : List Nat) (ad2 : Nat → Nat) (σ2 : Mm), S0 = (T2, ad2, cO D ad2 σ2) ∧ 399 ∈ T2 ∧ ad2 399 = ad 399 ∧ PP v T2 ad2 σ2) (hE : ∀ E, ex E → E = sIOB) : KW D l yL_plan (uwsW yL_plan cL_plan 4 (some .int) [(0, 9, 12, 13)]) (RM 10 40 400) [.ref (ad 0), .int x1, .ref (ad 399)] (T, ad, cO D ad σ) (fun r S1 => (r = 0 ∧ ∃ (v : Int32) (T2 : List Nat) (ad2 : Nat → Nat) (σ2 : Mm), PP v T2 ad2 σ2 ∧ S1 = (T2, ad2, cO D ad2 (up σ2 99 0 v))) ∨ (r = 1 ∧ ex sIOB ∧ S1 = (T, ad, cO D ad σ))) 40 400 := by
  refine KW_of (own := RL) (L0 := [some (.ref (ad 0)), some (.int x1), some (.ref (ad 399)), none]) (by decide +kernel) rfl (catc rfl (catc rfl (catc rfl cat0))) (Nat.le_of_ble_eq_true rfl) rfl ?_
  intro p e s m args below meth c A C hNC
  refine r_aload2 (pc := 0) C dL_plan_0 ?_
  refine r_iconst (pc := 1) C (v := 0) dL_plan_1 (by decide) ?_
  refine r_aload0 (pc := 2) C dL_plan_2 ?_
  refine r_iload1 (pc := 3) C dL_plan_3 ?_
  refine r_callVI (pc := 4) C hM ml_RL_64 im_X5_plan se_X5_plan ini_X5_plan cd_X5_plan hd_RL_64 (hT.f (k := 0) (by decide)) rfl rfl rfl rfl (Nat.le_of_ble_eq_true rfl) ⟨rfl, rfl⟩ (by decide) (by decide) dL_plan_4 (fun E ce q9 H1 locs1 ls hx hP hD hS hl h1 h2 h3 => ?_) ?_
  · have e1 := hE E hx
    subst e1
    refine r_catch (name := sIOB) C hNC [] [] ⟨0, 9, 12, 13⟩ rfl (fun z hz => by cases hz) (by decide) (by decide) kl_RL_13 xn_IOB hP hD hS hl h1 h2 h3 ?_
    refine r_astore3 (pc := 12) C dL_plan_12 ?_
    refine r_iconst (pc := 13) C (v := 1) dL_plan_13 (by decide) ?_
    exact r_iret C rfl dL_plan_14 (Or.inr ⟨rfl, hx, rfl⟩) (by decide) (by decide)
  · intro v S1 hps
    obtain ⟨T2, ad2, σ2, rfl, h399, ha, hpp⟩ := hQ v S1 hps
    refine V_st (st2 := [.int v, .int 0, .ref (ad2 399)]) (by rw [ha]) ?_
    refine r_i2l (pc := 7) C dL_plan_7 ?_
    refine r_last (pc := 8) C (t := 399) (k := 0) (N := 1) (h := fun i => (σ2 99 i).toInt64) h399 rfl rfl (by decide) (by decide) (fun q => u_399 q) dL_plan_8 ?_
    refine r_goto (pc := 9) C (tgt := 15) dL_plan_9 (by decide) ?_
    refine r_iconst (pc := 15) C (v := 0) dL_plan_15 (by decide) ?_
    exact r_iret C rfl dL_plan_16 (Or.inl ⟨rfl, v, T2, ad2, σ2, hpp, rfl⟩) (by decide) (by decide)
theorem cdW_L_planAnew : Cond.codeWith yL_planAnew cL_planAnew 4 (some .int) [(0, 9, 12, 13)] ∈ UW := UW_m (i := 634) (by decide +kernel) (by decide +kernel)
theorem st_L_planAnew : Cond.static yL_planAnew ∈ UW := UW_m (i := 633) (by decide +kernel) (by decide +kernel)
theorem ml_RL_152 : Cond.methodLink RL 152 yL_planAnew ∈ UW := UW_m (i := 632) (by decide +kernel) (by decide +kernel)
theorem hd_RL_152 : yL_planAnew.cls ≠ "java/lang/invoke/MethodHandle" ∧ yL_planAnew.cls ≠ "java/lang/invoke/VarHandle" ∧ (parseMethodDescriptor yL_planAnew.desc).map (fun d => d.parameters.length) = some 3 := ⟨by decide +kernel, by decide +kernel, by decide +kernel⟩
set_option maxRecDepth 100000 in
set_option maxHeartbeats 1000000 in
theorem c_L_planAnew (l : Launch) (D : Gt) (T : List Nat) (ad : Nat → Nat) (σ : Mm) {nr ng : Nat} (hT : TG nr ng T) (x1 : Int32) {pst : Int32 → St → Prop} {ex : String → Prop} {PP : Int32 → List Nat → (Nat → Nat) → Mm → Prop} (hM : KI D l yX5_planAnew (uws yX5_planAnew cX5_planAnew 5 (some .int)) (RM 9 40 400) [.ref (ad 0), .int x1] (T, ad, cO D ad σ) pst ex 40 400) (hQ : ∀ (v : Int32) (S0 : St), pst v S0 → ∃ (T2 : List Nat) (ad2 : Nat → Nat) (σ2 : Mm), S0 = (T2, ad2, cO D ad2 σ2) ∧ 399 ∈ T2 ∧ ad2 399 = ad 399 ∧ PP v T2 ad2 σ2) (hE : ∀ E, ex E → E = sIOB) : KW D l yL_planAnew (uwsW yL_planAnew cL_planAnew 4 (some .int) [(0, 9, 12, 13)]) (RM 10 40 400) [.ref (ad 0), .int x1, .ref (ad 399)] (T, ad, cO D ad σ) (fun r S1 => (r = 0 ∧ ∃ (v : Int32) (T2 : List Nat) (ad2 : Nat → Nat) (σ2 : Mm), PP v T2 ad2 σ2 ∧ S1 = (T2, ad2, cO D ad2 (up σ2 99 0 v))) ∨ (r = 1 ∧ ex sIOB ∧ S1 = (T, ad, cO D ad σ))) 40 400 := by
  refine KW_of (own := RL) (L0 := [some (.ref (ad 0)), some (.int x1), some (.ref (ad 399)), none]) (by decide +kernel) rfl (catc rfl (catc rfl (catc rfl cat0))) (Nat.le_of_ble_eq_true rfl) rfl ?_
  intro p e s m args below meth c A C hNC
  refine r_aload2 (pc := 0) C dL_planAnew_0 ?_
  refine r_iconst (pc := 1) C (v := 0) dL_planAnew_1 (by decide) ?_
  refine r_aload0 (pc := 2) C dL_planAnew_2 ?_
  refine r_iload1 (pc := 3) C dL_planAnew_3 ?_
  refine r_callVI (pc := 4) C hM ml_RL_67 im_X5_planAnew se_X5_planAnew ini_X5_planAnew cd_X5_planAnew hd_RL_67 (hT.f (k := 0) (by decide)) rfl rfl rfl rfl (Nat.le_of_ble_eq_true rfl) ⟨rfl, rfl⟩ (by decide) (by decide) dL_planAnew_4 (fun E ce q9 H1 locs1 ls hx hP hD hS hl h1 h2 h3 => ?_) ?_
  · have e1 := hE E hx
    subst e1
    refine r_catch (name := sIOB) C hNC [] [] ⟨0, 9, 12, 13⟩ rfl (fun z hz => by cases hz) (by decide) (by decide) kl_RL_13 xn_IOB hP hD hS hl h1 h2 h3 ?_
    refine r_astore3 (pc := 12) C dL_planAnew_12 ?_
    refine r_iconst (pc := 13) C (v := 1) dL_planAnew_13 (by decide) ?_
    exact r_iret C rfl dL_planAnew_14 (Or.inr ⟨rfl, hx, rfl⟩) (by decide) (by decide)
  · intro v S1 hps
    obtain ⟨T2, ad2, σ2, rfl, h399, ha, hpp⟩ := hQ v S1 hps
    refine V_st (st2 := [.int v, .int 0, .ref (ad2 399)]) (by rw [ha]) ?_
    refine r_i2l (pc := 7) C dL_planAnew_7 ?_
    refine r_last (pc := 8) C (t := 399) (k := 0) (N := 1) (h := fun i => (σ2 99 i).toInt64) h399 rfl rfl (by decide) (by decide) (fun q => u_399 q) dL_planAnew_8 ?_
    refine r_goto (pc := 9) C (tgt := 15) dL_planAnew_9 (by decide) ?_
    refine r_iconst (pc := 15) C (v := 0) dL_planAnew_15 (by decide) ?_
    exact r_iret C rfl dL_planAnew_16 (Or.inl ⟨rfl, v, T2, ad2, σ2, hpp, rfl⟩) (by decide) (by decide)
theorem cdW_L_cut : Cond.codeWith yL_cut cL_cut 4 (some .int) [(0, 9, 12, 13), (0, 9, 15, 15)] ∈ UW := UW_m (i := 644) (by decide +kernel) (by decide +kernel)
theorem st_L_cut : Cond.static yL_cut ∈ UW := UW_m (i := 643) (by decide +kernel) (by decide +kernel)
theorem ml_RL_155 : Cond.methodLink RL 155 yL_cut ∈ UW := UW_m (i := 642) (by decide +kernel) (by decide +kernel)
theorem hd_RL_155 : yL_cut.cls ≠ "java/lang/invoke/MethodHandle" ∧ yL_cut.cls ≠ "java/lang/invoke/VarHandle" ∧ (parseMethodDescriptor yL_cut.desc).map (fun d => d.parameters.length) = some 3 := ⟨by decide +kernel, by decide +kernel, by decide +kernel⟩
set_option maxRecDepth 100000 in
set_option maxHeartbeats 1000000 in
theorem c_L_cut (l : Launch) (D : Gt) (T : List Nat) (ad : Nat → Nat) (σ : Mm) {nr ng : Nat} (hT : TG nr ng T) (x1 : Int32) {pst : Int32 → St → Prop} {ex : String → Prop} {PP : Int32 → List Nat → (Nat → Nat) → Mm → Prop} (hM : KI D l yX5_cut (uws yX5_cut cX5_cut 6 (some .int)) (RM 9 40 400) [.ref (ad 0), .int x1] (T, ad, cO D ad σ) pst ex 40 400) (hQ : ∀ (v : Int32) (S0 : St), pst v S0 → ∃ (T2 : List Nat) (ad2 : Nat → Nat) (σ2 : Mm), S0 = (T2, ad2, cO D ad2 σ2) ∧ 399 ∈ T2 ∧ ad2 399 = ad 399 ∧ PP v T2 ad2 σ2) (hE : ∀ E, ex E → E = sIOB ∨ E = sISE) : KW D l yL_cut (uwsW yL_cut cL_cut 4 (some .int) [(0, 9, 12, 13), (0, 9, 15, 15)]) (RM 10 40 400) [.ref (ad 0), .int x1, .ref (ad 399)] (T, ad, cO D ad σ) (fun r S1 => (r = 0 ∧ ∃ (v : Int32) (T2 : List Nat) (ad2 : Nat → Nat) (σ2 : Mm), PP v T2 ad2 σ2 ∧ S1 = (T2, ad2, cO D ad2 (up σ2 99 0 v))) ∨ (r = 1 ∧ ex sIOB ∧ S1 = (T, ad, cO D ad σ)) ∨ (r = 2 ∧ ex sISE ∧ S1 = (T, ad, cO D ad σ))) 40 400 := by
  refine KW_of (own := RL) (L0 := [some (.ref (ad 0)), some (.int x1), some (.ref (ad 399)), none]) (by decide +kernel) rfl (catc rfl (catc rfl (catc rfl cat0))) (Nat.le_of_ble_eq_true rfl) rfl ?_
  intro p e s m args below meth c A C hNC
  refine r_aload2 (pc := 0) C dL_cut_0 ?_
  refine r_iconst (pc := 1) C (v := 0) dL_cut_1 (by decide) ?_
  refine r_aload0 (pc := 2) C dL_cut_2 ?_
  refine r_iload1 (pc := 3) C dL_cut_3 ?_
  refine r_callVI (pc := 4) C hM ml_RL_70 im_X5_cut se_X5_cut ini_X5_cut cd_X5_cut hd_RL_70 (hT.f (k := 0) (by decide)) rfl rfl rfl rfl (Nat.le_of_ble_eq_true rfl) ⟨rfl, rfl⟩ (by decide) (by decide) dL_cut_4 (fun E ce q9 H1 locs1 ls hx hP hD hS hl h1 h2 h3 => ?_) ?_
  · rcases hE E hx with rfl | rfl
    · refine r_catch (name := sIOB) C hNC [] [⟨0, 9, 15, 15⟩] ⟨0, 9, 12, 13⟩ rfl (fun z hz => by cases hz) (by decide) (by decide) kl_RL_13 xn_IOB hP hD hS hl h1 h2 h3 ?_
      refine r_astore3 (pc := 12) C dL_cut_12 ?_
      refine r_iconst (pc := 13) C (v := 1) dL_cut_13 (by decide) ?_
      exact r_iret C rfl dL_cut_14 (Or.inr (Or.inl ⟨rfl, hx, rfl⟩)) (by decide) (by decide)
    · refine r_catch (name := sISE) C hNC [⟨0, 9, 12, 13⟩] [] ⟨0, 9, 15, 15⟩ rfl (fun z hz => by rw [List.mem_singleton.mp hz]; exact (Or.inr ⟨by decide, sIOB, kl_RL_13, by decide⟩)) (by decide) (by decide) kl_RL_15 xn_ISE hP hD hS hl h1 h2 h3 ?_
      refine r_astore3 (pc := 15) C dL_cut_15 ?_
      refine r_iconst (pc := 16) C (v := 2) dL_cut_16 (by decide) ?_
      exact r_iret C rfl dL_cut_17 (Or.inr (Or.inr ⟨rfl, hx, rfl⟩)) (by decide) (by decide)
  · intro v S1 hps
    obtain ⟨T2, ad2, σ2, rfl, h399, ha, hpp⟩ := hQ v S1 hps
    refine V_st (st2 := [.int v, .int 0, .ref (ad2 399)]) (by rw [ha]) ?_
    refine r_i2l (pc := 7) C dL_cut_7 ?_
    refine r_last (pc := 8) C (t := 399) (k := 0) (N := 1) (h := fun i => (σ2 99 i).toInt64) h399 rfl rfl (by decide) (by decide) (fun q => u_399 q) dL_cut_8 ?_
    refine r_goto (pc := 9) C (tgt := 18) dL_cut_9 (by decide) ?_
    refine r_iconst (pc := 18) C (v := 0) dL_cut_18 (by decide) ?_
    exact r_iret C rfl dL_cut_19 (Or.inl ⟨rfl, v, T2, ad2, σ2, hpp, rfl⟩) (by decide) (by decide)
theorem cdW_L_recut : Cond.codeWith yL_recut cL_recut 5 (some .int) [(0, 10, 13, 13), (0, 10, 17, 21)] ∈ UW := UW_m (i := 704) (by decide +kernel) (by decide +kernel)
theorem st_L_recut : Cond.static yL_recut ∈ UW := UW_m (i := 703) (by decide +kernel) (by decide +kernel)
theorem ml_RL_158 : Cond.methodLink RL 158 yL_recut ∈ UW := UW_m (i := 702) (by decide +kernel) (by decide +kernel)
theorem hd_RL_158 : yL_recut.cls ≠ "java/lang/invoke/MethodHandle" ∧ yL_recut.cls ≠ "java/lang/invoke/VarHandle" ∧ (parseMethodDescriptor yL_recut.desc).map (fun d => d.parameters.length) = some 4 := ⟨by decide +kernel, by decide +kernel, by decide +kernel⟩
set_option maxRecDepth 100000 in
set_option maxHeartbeats 1000000 in
theorem c_L_recut (l : Launch) (D : Gt) (T : List Nat) (ad : Nat → Nat) (σ : Mm) {nr ng : Nat} (hT : TG nr ng T) (x1 x2 : Int32) {pst : Int32 → St → Prop} {ex : String → Prop} {PP : Int32 → List Nat → (Nat → Nat) → Mm → Prop} (hM : KI D l yX5_recut (uws yX5_recut cX5_recut 5 (some .int)) (RM 9 40 400) [.ref (ad 0), .int x1, .int x2] (T, ad, cO D ad σ) pst ex 40 400) (hQ : ∀ (v : Int32) (S0 : St), pst v S0 → ∃ (T2 : List Nat) (ad2 : Nat → Nat) (σ2 : Mm), S0 = (T2, ad2, cO D ad2 σ2) ∧ 399 ∈ T2 ∧ ad2 399 = ad 399 ∧ PP v T2 ad2 σ2) (hE : ∀ E, ex E → E = sIOB ∨ E = sIAE) : KW D l yL_recut (uwsW yL_recut cL_recut 5 (some .int) [(0, 10, 13, 13), (0, 10, 17, 21)]) (RM 10 40 400) [.ref (ad 0), .int x1, .int x2, .ref (ad 399)] (T, ad, cO D ad σ) (fun r S1 => (r = 0 ∧ ∃ (v : Int32) (T2 : List Nat) (ad2 : Nat → Nat) (σ2 : Mm), PP v T2 ad2 σ2 ∧ S1 = (T2, ad2, cO D ad2 (up σ2 99 0 v))) ∨ (r = 1 ∧ ex sIOB ∧ S1 = (T, ad, cO D ad σ)) ∨ (r = 2 ∧ ex sIAE ∧ S1 = (T, ad, cO D ad σ))) 40 400 := by
  refine KW_of (own := RL) (L0 := [some (.ref (ad 0)), some (.int x1), some (.int x2), some (.ref (ad 399)), none]) (by decide +kernel) rfl (catc rfl (catc rfl (catc rfl (catc rfl cat0)))) (Nat.le_of_ble_eq_true rfl) rfl ?_
  intro p e s m args below meth c A C hNC
  refine r_aload3 (pc := 0) C dL_recut_0 ?_
  refine r_iconst (pc := 1) C (v := 0) dL_recut_1 (by decide) ?_
  refine r_aload0 (pc := 2) C dL_recut_2 ?_
  refine r_iload1 (pc := 3) C dL_recut_3 ?_
  refine r_iload2 (pc := 4) C dL_recut_4 ?_
  refine r_callVI (pc := 5) C hM ml_RL_73 im_X5_recut se_X5_recut ini_X5_recut cd_X5_recut hd_RL_73 (hT.f (k := 0) (by decide)) rfl rfl rfl rfl (Nat.le_of_ble_eq_true rfl) ⟨rfl, rfl⟩ (by decide) (by decide) dL_recut_5 (fun E ce q9 H1 locs1 ls hx hP hD hS hl h1 h2 h3 => ?_) ?_
  · rcases hE E hx with rfl | rfl
    · refine r_catch (name := sIOB) C hNC [] [⟨0, 10, 17, 21⟩] ⟨0, 10, 13, 13⟩ rfl (fun z hz => by cases hz) (by decide) (by decide) kl_RL_13 xn_IOB hP hD hS hl h1 h2 h3 ?_
      refine r_astore4 (pc := 13) C dL_recut_13 ?_
      refine r_iconst (pc := 15) C (v := 1) dL_recut_15 (by decide) ?_
      exact r_iret C rfl dL_recut_16 (Or.inr (Or.inl ⟨rfl, hx, rfl⟩)) (by decide) (by decide)
    · refine r_catch (name := sIAE) C hNC [⟨0, 10, 13, 13⟩] [] ⟨0, 10, 17, 21⟩ rfl (fun z hz => by rw [List.mem_singleton.mp hz]; exact (Or.inr ⟨by decide, sIOB, kl_RL_13, by decide⟩)) (by decide) (by decide) kl_RL_21 xn_IAE hP hD hS hl h1 h2 h3 ?_
      refine r_astore4 (pc := 17) C dL_recut_17 ?_
      refine r_iconst (pc := 19) C (v := 2) dL_recut_19 (by decide) ?_
      exact r_iret C rfl dL_recut_20 (Or.inr (Or.inr ⟨rfl, hx, rfl⟩)) (by decide) (by decide)
  · intro v S1 hps
    obtain ⟨T2, ad2, σ2, rfl, h399, ha, hpp⟩ := hQ v S1 hps
    refine V_st (st2 := [.int v, .int 0, .ref (ad2 399)]) (by rw [ha]) ?_
    refine r_i2l (pc := 8) C dL_recut_8 ?_
    refine r_last (pc := 9) C (t := 399) (k := 0) (N := 1) (h := fun i => (σ2 99 i).toInt64) h399 rfl rfl (by decide) (by decide) (fun q => u_399 q) dL_recut_9 ?_
    refine r_goto (pc := 10) C (tgt := 21) dL_recut_10 (by decide) ?_
    refine r_iconst (pc := 21) C (v := 0) dL_recut_21 (by decide) ?_
    exact r_iret C rfl dL_recut_22 (Or.inl ⟨rfl, v, T2, ad2, σ2, hpp, rfl⟩) (by decide) (by decide)
theorem cdW_L_polished : Cond.codeWith yL_polished cL_polished 5 (some .int) [(0, 10, 13, 13), (0, 10, 17, 21)] ∈ UW := UW_m (i := 716) (by decide +kernel) (by decide +kernel)
theorem st_L_polished : Cond.static yL_polished ∈ UW := UW_m (i := 715) (by decide +kernel) (by decide +kernel)
theorem ml_RL_161 : Cond.methodLink RL 161 yL_polished ∈ UW := UW_m (i := 714) (by decide +kernel) (by decide +kernel)
theorem hd_RL_161 : yL_polished.cls ≠ "java/lang/invoke/MethodHandle" ∧ yL_polished.cls ≠ "java/lang/invoke/VarHandle" ∧ (parseMethodDescriptor yL_polished.desc).map (fun d => d.parameters.length) = some 4 := ⟨by decide +kernel, by decide +kernel, by decide +kernel⟩
set_option maxRecDepth 100000 in
set_option maxHeartbeats 1000000 in
theorem c_L_polished (l : Launch) (D : Gt) (T : List Nat) (ad : Nat → Nat) (σ : Mm) {nr ng : Nat} (hT : TG nr ng T) (x1 x2 : Int32) {pst : Int32 → St → Prop} {ex : String → Prop} {PP : Int32 → List Nat → (Nat → Nat) → Mm → Prop} (hM : KI D l yX5_polished (uws yX5_polished cX5_polished 4 (some .int)) (RM 9 40 400) [.ref (ad 0), .int x1, .int x2] (T, ad, cO D ad σ) pst ex 40 400) (hQ : ∀ (v : Int32) (S0 : St), pst v S0 → ∃ (T2 : List Nat) (ad2 : Nat → Nat) (σ2 : Mm), S0 = (T2, ad2, cO D ad2 σ2) ∧ 399 ∈ T2 ∧ ad2 399 = ad 399 ∧ PP v T2 ad2 σ2) (hE : ∀ E, ex E → E = sIOB ∨ E = sIAE) : KW D l yL_polished (uwsW yL_polished cL_polished 5 (some .int) [(0, 10, 13, 13), (0, 10, 17, 21)]) (RM 10 40 400) [.ref (ad 0), .int x1, .int x2, .ref (ad 399)] (T, ad, cO D ad σ) (fun r S1 => (r = 0 ∧ ∃ (v : Int32) (T2 : List Nat) (ad2 : Nat → Nat) (σ2 : Mm), PP v T2 ad2 σ2 ∧ S1 = (T2, ad2, cO D ad2 (up σ2 99 0 v))) ∨ (r = 1 ∧ ex sIOB ∧ S1 = (T, ad, cO D ad σ)) ∨ (r = 2 ∧ ex sIAE ∧ S1 = (T, ad, cO D ad σ))) 40 400 := by
  refine KW_of (own := RL) (L0 := [some (.ref (ad 0)), some (.int x1), some (.int x2), some (.ref (ad 399)), none]) (by decide +kernel) rfl (catc rfl (catc rfl (catc rfl (catc rfl cat0)))) (Nat.le_of_ble_eq_true rfl) rfl ?_
  intro p e s m args below meth c A C hNC
  refine r_aload3 (pc := 0) C dL_polished_0 ?_
  refine r_iconst (pc := 1) C (v := 0) dL_polished_1 (by decide) ?_
  refine r_aload0 (pc := 2) C dL_polished_2 ?_
  refine r_iload1 (pc := 3) C dL_polished_3 ?_
  refine r_iload2 (pc := 4) C dL_polished_4 ?_
  refine r_callVI (pc := 5) C hM ml_RL_76 im_X5_polished se_X5_polished ini_X5_polished cd_X5_polished hd_RL_76 (hT.f (k := 0) (by decide)) rfl rfl rfl rfl (Nat.le_of_ble_eq_true rfl) ⟨rfl, rfl⟩ (by decide) (by decide) dL_polished_5 (fun E ce q9 H1 locs1 ls hx hP hD hS hl h1 h2 h3 => ?_) ?_
  · rcases hE E hx with rfl | rfl
    · refine r_catch (name := sIOB) C hNC [] [⟨0, 10, 17, 21⟩] ⟨0, 10, 13, 13⟩ rfl (fun z hz => by cases hz) (by decide) (by decide) kl_RL_13 xn_IOB hP hD hS hl h1 h2 h3 ?_
      refine r_astore4 (pc := 13) C dL_polished_13 ?_
      refine r_iconst (pc := 15) C (v := 1) dL_polished_15 (by decide) ?_
      exact r_iret C rfl dL_polished_16 (Or.inr (Or.inl ⟨rfl, hx, rfl⟩)) (by decide) (by decide)
    · refine r_catch (name := sIAE) C hNC [⟨0, 10, 13, 13⟩] [] ⟨0, 10, 17, 21⟩ rfl (fun z hz => by rw [List.mem_singleton.mp hz]; exact (Or.inr ⟨by decide, sIOB, kl_RL_13, by decide⟩)) (by decide) (by decide) kl_RL_21 xn_IAE hP hD hS hl h1 h2 h3 ?_
      refine r_astore4 (pc := 17) C dL_polished_17 ?_
      refine r_iconst (pc := 19) C (v := 2) dL_polished_19 (by decide) ?_
      exact r_iret C rfl dL_polished_20 (Or.inr (Or.inr ⟨rfl, hx, rfl⟩)) (by decide) (by decide)
  · intro v S1 hps
    obtain ⟨T2, ad2, σ2, rfl, h399, ha, hpp⟩ := hQ v S1 hps
    refine V_st (st2 := [.int v, .int 0, .ref (ad2 399)]) (by rw [ha]) ?_
    refine r_i2l (pc := 8) C dL_polished_8 ?_
    refine r_last (pc := 9) C (t := 399) (k := 0) (N := 1) (h := fun i => (σ2 99 i).toInt64) h399 rfl rfl (by decide) (by decide) (fun q => u_399 q) dL_polished_9 ?_
    refine r_goto (pc := 10) C (tgt := 21) dL_polished_10 (by decide) ?_
    refine r_iconst (pc := 21) C (v := 0) dL_polished_21 (by decide) ?_
    exact r_iret C rfl dL_polished_22 (Or.inl ⟨rfl, v, T2, ad2, σ2, hpp, rfl⟩) (by decide) (by decide)
theorem cdW_L_scale : Cond.codeWith yL_scale cL_scale 5 (some .int) [(0, 10, 13, 13), (0, 10, 17, 21)] ∈ UW := UW_m (i := 735) (by decide +kernel) (by decide +kernel)
theorem st_L_scale : Cond.static yL_scale ∈ UW := UW_m (i := 734) (by decide +kernel) (by decide +kernel)
theorem ml_RL_164 : Cond.methodLink RL 164 yL_scale ∈ UW := UW_m (i := 733) (by decide +kernel) (by decide +kernel)
theorem hd_RL_164 : yL_scale.cls ≠ "java/lang/invoke/MethodHandle" ∧ yL_scale.cls ≠ "java/lang/invoke/VarHandle" ∧ (parseMethodDescriptor yL_scale.desc).map (fun d => d.parameters.length) = some 4 := ⟨by decide +kernel, by decide +kernel, by decide +kernel⟩
set_option maxRecDepth 100000 in
set_option maxHeartbeats 1000000 in
theorem c_L_scale (l : Launch) (D : Gt) (T : List Nat) (ad : Nat → Nat) (σ : Mm) {nr ng : Nat} (hT : TG nr ng T) (x1 x2 : Int32) {pst : Int32 → St → Prop} {ex : String → Prop} {PP : Int32 → List Nat → (Nat → Nat) → Mm → Prop} (hM : KI D l yX5_scale (uws yX5_scale cX5_scale 4 (some .int)) (RM 9 40 400) [.ref (ad 0), .int x1, .int x2] (T, ad, cO D ad σ) pst ex 40 400) (hQ : ∀ (v : Int32) (S0 : St), pst v S0 → ∃ (T2 : List Nat) (ad2 : Nat → Nat) (σ2 : Mm), S0 = (T2, ad2, cO D ad2 σ2) ∧ 399 ∈ T2 ∧ ad2 399 = ad 399 ∧ PP v T2 ad2 σ2) (hE : ∀ E, ex E → E = sIOB ∨ E = sIAE) : KW D l yL_scale (uwsW yL_scale cL_scale 5 (some .int) [(0, 10, 13, 13), (0, 10, 17, 21)]) (RM 10 40 400) [.ref (ad 0), .int x1, .int x2, .ref (ad 399)] (T, ad, cO D ad σ) (fun r S1 => (r = 0 ∧ ∃ (v : Int32) (T2 : List Nat) (ad2 : Nat → Nat) (σ2 : Mm), PP v T2 ad2 σ2 ∧ S1 = (T2, ad2, cO D ad2 (up σ2 99 0 v))) ∨ (r = 1 ∧ ex sIOB ∧ S1 = (T, ad, cO D ad σ)) ∨ (r = 2 ∧ ex sIAE ∧ S1 = (T, ad, cO D ad σ))) 40 400 := by
  refine KW_of (own := RL) (L0 := [some (.ref (ad 0)), some (.int x1), some (.int x2), some (.ref (ad 399)), none]) (by decide +kernel) rfl (catc rfl (catc rfl (catc rfl (catc rfl cat0)))) (Nat.le_of_ble_eq_true rfl) rfl ?_
  intro p e s m args below meth c A C hNC
  refine r_aload3 (pc := 0) C dL_scale_0 ?_
  refine r_iconst (pc := 1) C (v := 0) dL_scale_1 (by decide) ?_
  refine r_aload0 (pc := 2) C dL_scale_2 ?_
  refine r_iload1 (pc := 3) C dL_scale_3 ?_
  refine r_iload2 (pc := 4) C dL_scale_4 ?_
  refine r_callVI (pc := 5) C hM ml_RL_79 im_X5_scale se_X5_scale ini_X5_scale cd_X5_scale hd_RL_79 (hT.f (k := 0) (by decide)) rfl rfl rfl rfl (Nat.le_of_ble_eq_true rfl) ⟨rfl, rfl⟩ (by decide) (by decide) dL_scale_5 (fun E ce q9 H1 locs1 ls hx hP hD hS hl h1 h2 h3 => ?_) ?_
  · rcases hE E hx with rfl | rfl
    · refine r_catch (name := sIOB) C hNC [] [⟨0, 10, 17, 21⟩] ⟨0, 10, 13, 13⟩ rfl (fun z hz => by cases hz) (by decide) (by decide) kl_RL_13 xn_IOB hP hD hS hl h1 h2 h3 ?_
      refine r_astore4 (pc := 13) C dL_scale_13 ?_
      refine r_iconst (pc := 15) C (v := 1) dL_scale_15 (by decide) ?_
      exact r_iret C rfl dL_scale_16 (Or.inr (Or.inl ⟨rfl, hx, rfl⟩)) (by decide) (by decide)
    · refine r_catch (name := sIAE) C hNC [⟨0, 10, 13, 13⟩] [] ⟨0, 10, 17, 21⟩ rfl (fun z hz => by rw [List.mem_singleton.mp hz]; exact (Or.inr ⟨by decide, sIOB, kl_RL_13, by decide⟩)) (by decide) (by decide) kl_RL_21 xn_IAE hP hD hS hl h1 h2 h3 ?_
      refine r_astore4 (pc := 17) C dL_scale_17 ?_
      refine r_iconst (pc := 19) C (v := 2) dL_scale_19 (by decide) ?_
      exact r_iret C rfl dL_scale_20 (Or.inr (Or.inr ⟨rfl, hx, rfl⟩)) (by decide) (by decide)
  · intro v S1 hps
    obtain ⟨T2, ad2, σ2, rfl, h399, ha, hpp⟩ := hQ v S1 hps
    refine V_st (st2 := [.int v, .int 0, .ref (ad2 399)]) (by rw [ha]) ?_
    refine r_i2l (pc := 8) C dL_scale_8 ?_
    refine r_last (pc := 9) C (t := 399) (k := 0) (N := 1) (h := fun i => (σ2 99 i).toInt64) h399 rfl rfl (by decide) (by decide) (fun q => u_399 q) dL_scale_9 ?_
    refine r_goto (pc := 10) C (tgt := 21) dL_scale_10 (by decide) ?_
    refine r_iconst (pc := 21) C (v := 0) dL_scale_21 (by decide) ?_
    exact r_iret C rfl dL_scale_22 (Or.inl ⟨rfl, v, T2, ad2, σ2, hpp, rfl⟩) (by decide) (by decide)
theorem cdW_L_look : Cond.codeWith yL_look cL_look 5 (some .int) [(0, 10, 13, 13), (0, 10, 17, 15)] ∈ UW := UW_m (i := 742) (by decide +kernel) (by decide +kernel)
theorem st_L_look : Cond.static yL_look ∈ UW := UW_m (i := 741) (by decide +kernel) (by decide +kernel)
theorem ml_RL_167 : Cond.methodLink RL 167 yL_look ∈ UW := UW_m (i := 740) (by decide +kernel) (by decide +kernel)
theorem hd_RL_167 : yL_look.cls ≠ "java/lang/invoke/MethodHandle" ∧ yL_look.cls ≠ "java/lang/invoke/VarHandle" ∧ (parseMethodDescriptor yL_look.desc).map (fun d => d.parameters.length) = some 4 := ⟨by decide +kernel, by decide +kernel, by decide +kernel⟩
set_option maxRecDepth 100000 in
set_option maxHeartbeats 1000000 in
theorem c_L_look (l : Launch) (D : Gt) (T : List Nat) (ad : Nat → Nat) (σ : Mm) {nr ng : Nat} (hT : TG nr ng T) (x1 x2 : Int32) {pst : Int32 → St → Prop} {ex : String → Prop} {PP : Int32 → List Nat → (Nat → Nat) → Mm → Prop} (hM : KI D l yX5_look (uws yX5_look cX5_look 5 (some .int)) (RM 9 40 400) [.ref (ad 0), .int x1, .int x2] (T, ad, cO D ad σ) pst ex 40 400) (hQ : ∀ (v : Int32) (S0 : St), pst v S0 → ∃ (T2 : List Nat) (ad2 : Nat → Nat) (σ2 : Mm), S0 = (T2, ad2, cO D ad2 σ2) ∧ 399 ∈ T2 ∧ ad2 399 = ad 399 ∧ PP v T2 ad2 σ2) (hE : ∀ E, ex E → E = sIOB ∨ E = sISE) : KW D l yL_look (uwsW yL_look cL_look 5 (some .int) [(0, 10, 13, 13), (0, 10, 17, 15)]) (RM 10 40 400) [.ref (ad 0), .int x1, .int x2, .ref (ad 399)] (T, ad, cO D ad σ) (fun r S1 => (r = 0 ∧ ∃ (v : Int32) (T2 : List Nat) (ad2 : Nat → Nat) (σ2 : Mm), PP v T2 ad2 σ2 ∧ S1 = (T2, ad2, cO D ad2 (up σ2 99 0 v))) ∨ (r = 1 ∧ ex sIOB ∧ S1 = (T, ad, cO D ad σ)) ∨ (r = 2 ∧ ex sISE ∧ S1 = (T, ad, cO D ad σ))) 40 400 := by
  refine KW_of (own := RL) (L0 := [some (.ref (ad 0)), some (.int x1), some (.int x2), some (.ref (ad 399)), none]) (by decide +kernel) rfl (catc rfl (catc rfl (catc rfl (catc rfl cat0)))) (Nat.le_of_ble_eq_true rfl) rfl ?_
  intro p e s m args below meth c A C hNC
  refine r_aload3 (pc := 0) C dL_look_0 ?_
  refine r_iconst (pc := 1) C (v := 0) dL_look_1 (by decide) ?_
  refine r_aload0 (pc := 2) C dL_look_2 ?_
  refine r_iload1 (pc := 3) C dL_look_3 ?_
  refine r_iload2 (pc := 4) C dL_look_4 ?_
  refine r_callVI (pc := 5) C hM ml_RL_82 im_X5_look se_X5_look ini_X5_look cd_X5_look hd_RL_82 (hT.f (k := 0) (by decide)) rfl rfl rfl rfl (Nat.le_of_ble_eq_true rfl) ⟨rfl, rfl⟩ (by decide) (by decide) dL_look_5 (fun E ce q9 H1 locs1 ls hx hP hD hS hl h1 h2 h3 => ?_) ?_
  · rcases hE E hx with rfl | rfl
    · refine r_catch (name := sIOB) C hNC [] [⟨0, 10, 17, 15⟩] ⟨0, 10, 13, 13⟩ rfl (fun z hz => by cases hz) (by decide) (by decide) kl_RL_13 xn_IOB hP hD hS hl h1 h2 h3 ?_
      refine r_astore4 (pc := 13) C dL_look_13 ?_
      refine r_iconst (pc := 15) C (v := 1) dL_look_15 (by decide) ?_
      exact r_iret C rfl dL_look_16 (Or.inr (Or.inl ⟨rfl, hx, rfl⟩)) (by decide) (by decide)
    · refine r_catch (name := sISE) C hNC [⟨0, 10, 13, 13⟩] [] ⟨0, 10, 17, 15⟩ rfl (fun z hz => by rw [List.mem_singleton.mp hz]; exact (Or.inr ⟨by decide, sIOB, kl_RL_13, by decide⟩)) (by decide) (by decide) kl_RL_15 xn_ISE hP hD hS hl h1 h2 h3 ?_
      refine r_astore4 (pc := 17) C dL_look_17 ?_
      refine r_iconst (pc := 19) C (v := 2) dL_look_19 (by decide) ?_
      exact r_iret C rfl dL_look_20 (Or.inr (Or.inr ⟨rfl, hx, rfl⟩)) (by decide) (by decide)
  · intro v S1 hps
    obtain ⟨T2, ad2, σ2, rfl, h399, ha, hpp⟩ := hQ v S1 hps
    refine V_st (st2 := [.int v, .int 0, .ref (ad2 399)]) (by rw [ha]) ?_
    refine r_i2l (pc := 8) C dL_look_8 ?_
    refine r_last (pc := 9) C (t := 399) (k := 0) (N := 1) (h := fun i => (σ2 99 i).toInt64) h399 rfl rfl (by decide) (by decide) (fun q => u_399 q) dL_look_9 ?_
    refine r_goto (pc := 10) C (tgt := 21) dL_look_10 (by decide) ?_
    refine r_iconst (pc := 21) C (v := 0) dL_look_21 (by decide) ?_
    exact r_iret C rfl dL_look_22 (Or.inl ⟨rfl, v, T2, ad2, σ2, hpp, rfl⟩) (by decide) (by decide)
theorem cdW_L_paper : Cond.codeWith yL_paper cL_paper 5 (some .int) [(0, 10, 13, 13), (0, 10, 17, 15)] ∈ UW := UW_m (i := 750) (by decide +kernel) (by decide +kernel)
theorem st_L_paper : Cond.static yL_paper ∈ UW := UW_m (i := 749) (by decide +kernel) (by decide +kernel)
theorem ml_RL_170 : Cond.methodLink RL 170 yL_paper ∈ UW := UW_m (i := 748) (by decide +kernel) (by decide +kernel)
theorem hd_RL_170 : yL_paper.cls ≠ "java/lang/invoke/MethodHandle" ∧ yL_paper.cls ≠ "java/lang/invoke/VarHandle" ∧ (parseMethodDescriptor yL_paper.desc).map (fun d => d.parameters.length) = some 4 := ⟨by decide +kernel, by decide +kernel, by decide +kernel⟩
set_option maxRecDepth 100000 in
set_option maxHeartbeats 1000000 in
theorem c_L_paper (l : Launch) (D : Gt) (T : List Nat) (ad : Nat → Nat) (σ : Mm) {nr ng : Nat} (hT : TG nr ng T) (x1 x2 : Int32) {pst : Int32 → St → Prop} {ex : String → Prop} {PP : Int32 → List Nat → (Nat → Nat) → Mm → Prop} (hM : KI D l yX5_paper (uws yX5_paper cX5_paper 5 (some .int)) (RM 9 40 400) [.ref (ad 0), .int x1, .int x2] (T, ad, cO D ad σ) pst ex 40 400) (hQ : ∀ (v : Int32) (S0 : St), pst v S0 → ∃ (T2 : List Nat) (ad2 : Nat → Nat) (σ2 : Mm), S0 = (T2, ad2, cO D ad2 σ2) ∧ 399 ∈ T2 ∧ ad2 399 = ad 399 ∧ PP v T2 ad2 σ2) (hE : ∀ E, ex E → E = sIOB ∨ E = sISE) : KW D l yL_paper (uwsW yL_paper cL_paper 5 (some .int) [(0, 10, 13, 13), (0, 10, 17, 15)]) (RM 10 40 400) [.ref (ad 0), .int x1, .int x2, .ref (ad 399)] (T, ad, cO D ad σ) (fun r S1 => (r = 0 ∧ ∃ (v : Int32) (T2 : List Nat) (ad2 : Nat → Nat) (σ2 : Mm), PP v T2 ad2 σ2 ∧ S1 = (T2, ad2, cO D ad2 (up σ2 99 0 v))) ∨ (r = 1 ∧ ex sIOB ∧ S1 = (T, ad, cO D ad σ)) ∨ (r = 2 ∧ ex sISE ∧ S1 = (T, ad, cO D ad σ))) 40 400 := by
  refine KW_of (own := RL) (L0 := [some (.ref (ad 0)), some (.int x1), some (.int x2), some (.ref (ad 399)), none]) (by decide +kernel) rfl (catc rfl (catc rfl (catc rfl (catc rfl cat0)))) (Nat.le_of_ble_eq_true rfl) rfl ?_
  intro p e s m args below meth c A C hNC
  refine r_aload3 (pc := 0) C dL_paper_0 ?_
  refine r_iconst (pc := 1) C (v := 0) dL_paper_1 (by decide) ?_
  refine r_aload0 (pc := 2) C dL_paper_2 ?_
  refine r_iload1 (pc := 3) C dL_paper_3 ?_
  refine r_iload2 (pc := 4) C dL_paper_4 ?_
  refine r_callVI (pc := 5) C hM ml_RL_85 im_X5_paper se_X5_paper ini_X5_paper cd_X5_paper hd_RL_85 (hT.f (k := 0) (by decide)) rfl rfl rfl rfl (Nat.le_of_ble_eq_true rfl) ⟨rfl, rfl⟩ (by decide) (by decide) dL_paper_5 (fun E ce q9 H1 locs1 ls hx hP hD hS hl h1 h2 h3 => ?_) ?_
  · rcases hE E hx with rfl | rfl
    · refine r_catch (name := sIOB) C hNC [] [⟨0, 10, 17, 15⟩] ⟨0, 10, 13, 13⟩ rfl (fun z hz => by cases hz) (by decide) (by decide) kl_RL_13 xn_IOB hP hD hS hl h1 h2 h3 ?_
      refine r_astore4 (pc := 13) C dL_paper_13 ?_
      refine r_iconst (pc := 15) C (v := 1) dL_paper_15 (by decide) ?_
      exact r_iret C rfl dL_paper_16 (Or.inr (Or.inl ⟨rfl, hx, rfl⟩)) (by decide) (by decide)
    · refine r_catch (name := sISE) C hNC [⟨0, 10, 13, 13⟩] [] ⟨0, 10, 17, 15⟩ rfl (fun z hz => by rw [List.mem_singleton.mp hz]; exact (Or.inr ⟨by decide, sIOB, kl_RL_13, by decide⟩)) (by decide) (by decide) kl_RL_15 xn_ISE hP hD hS hl h1 h2 h3 ?_
      refine r_astore4 (pc := 17) C dL_paper_17 ?_
      refine r_iconst (pc := 19) C (v := 2) dL_paper_19 (by decide) ?_
      exact r_iret C rfl dL_paper_20 (Or.inr (Or.inr ⟨rfl, hx, rfl⟩)) (by decide) (by decide)
  · intro v S1 hps
    obtain ⟨T2, ad2, σ2, rfl, h399, ha, hpp⟩ := hQ v S1 hps
    refine V_st (st2 := [.int v, .int 0, .ref (ad2 399)]) (by rw [ha]) ?_
    refine r_i2l (pc := 8) C dL_paper_8 ?_
    refine r_last (pc := 9) C (t := 399) (k := 0) (N := 1) (h := fun i => (σ2 99 i).toInt64) h399 rfl rfl (by decide) (by decide) (fun q => u_399 q) dL_paper_9 ?_
    refine r_goto (pc := 10) C (tgt := 21) dL_paper_10 (by decide) ?_
    refine r_iconst (pc := 21) C (v := 0) dL_paper_21 (by decide) ?_
    exact r_iret C rfl dL_paper_22 (Or.inl ⟨rfl, v, T2, ad2, σ2, hpp, rfl⟩) (by decide) (by decide)
theorem cdW_L_all : Cond.codeWith yL_all cL_all 4 (some .int) [(0, 9, 12, 21)] ∈ UW := UW_m (i := 758) (by decide +kernel) (by decide +kernel)
theorem st_L_all : Cond.static yL_all ∈ UW := UW_m (i := 757) (by decide +kernel) (by decide +kernel)
theorem ml_RL_173 : Cond.methodLink RL 173 yL_all ∈ UW := UW_m (i := 756) (by decide +kernel) (by decide +kernel)
theorem hd_RL_173 : yL_all.cls ≠ "java/lang/invoke/MethodHandle" ∧ yL_all.cls ≠ "java/lang/invoke/VarHandle" ∧ (parseMethodDescriptor yL_all.desc).map (fun d => d.parameters.length) = some 3 := ⟨by decide +kernel, by decide +kernel, by decide +kernel⟩
set_option maxRecDepth 100000 in
set_option maxHeartbeats 1000000 in
theorem c_L_all (l : Launch) (D : Gt) (T : List Nat) (ad : Nat → Nat) (σ : Mm) {nr ng : Nat} (hT : TG nr ng T) (x1 : Int32) {pst : Int32 → St → Prop} {ex : String → Prop} {PP : Int32 → List Nat → (Nat → Nat) → Mm → Prop} (hM : KI D l yX5_all (uws yX5_all cX5_all 2 (some .int)) (RM 9 40 400) [.ref (ad 0), .int x1] (T, ad, cO D ad σ) pst ex 40 400) (hQ : ∀ (v : Int32) (S0 : St), pst v S0 → ∃ (T2 : List Nat) (ad2 : Nat → Nat) (σ2 : Mm), S0 = (T2, ad2, cO D ad2 σ2) ∧ 399 ∈ T2 ∧ ad2 399 = ad 399 ∧ PP v T2 ad2 σ2) (hE : ∀ E, ex E → E = sIAE) : KW D l yL_all (uwsW yL_all cL_all 4 (some .int) [(0, 9, 12, 21)]) (RM 10 40 400) [.ref (ad 0), .int x1, .ref (ad 399)] (T, ad, cO D ad σ) (fun r S1 => (r = 0 ∧ ∃ (v : Int32) (T2 : List Nat) (ad2 : Nat → Nat) (σ2 : Mm), PP v T2 ad2 σ2 ∧ S1 = (T2, ad2, cO D ad2 (up σ2 99 0 v))) ∨ (r = 1 ∧ ex sIAE ∧ S1 = (T, ad, cO D ad σ))) 40 400 := by
  refine KW_of (own := RL) (L0 := [some (.ref (ad 0)), some (.int x1), some (.ref (ad 399)), none]) (by decide +kernel) rfl (catc rfl (catc rfl (catc rfl cat0))) (Nat.le_of_ble_eq_true rfl) rfl ?_
  intro p e s m args below meth c A C hNC
  refine r_aload2 (pc := 0) C dL_all_0 ?_
  refine r_iconst (pc := 1) C (v := 0) dL_all_1 (by decide) ?_
  refine r_aload0 (pc := 2) C dL_all_2 ?_
  refine r_iload1 (pc := 3) C dL_all_3 ?_
  refine r_callVI (pc := 4) C hM ml_RL_88 im_X5_all se_X5_all ini_X5_all cd_X5_all hd_RL_88 (hT.f (k := 0) (by decide)) rfl rfl rfl rfl (Nat.le_of_ble_eq_true rfl) ⟨rfl, rfl⟩ (by decide) (by decide) dL_all_4 (fun E ce q9 H1 locs1 ls hx hP hD hS hl h1 h2 h3 => ?_) ?_
  · have e1 := hE E hx
    subst e1
    refine r_catch (name := sIAE) C hNC [] [] ⟨0, 9, 12, 21⟩ rfl (fun z hz => by cases hz) (by decide) (by decide) kl_RL_21 xn_IAE hP hD hS hl h1 h2 h3 ?_
    refine r_astore3 (pc := 12) C dL_all_12 ?_
    refine r_iconst (pc := 13) C (v := 1) dL_all_13 (by decide) ?_
    exact r_iret C rfl dL_all_14 (Or.inr ⟨rfl, hx, rfl⟩) (by decide) (by decide)
  · intro v S1 hps
    obtain ⟨T2, ad2, σ2, rfl, h399, ha, hpp⟩ := hQ v S1 hps
    refine V_st (st2 := [.int v, .int 0, .ref (ad2 399)]) (by rw [ha]) ?_
    refine r_i2l (pc := 7) C dL_all_7 ?_
    refine r_last (pc := 8) C (t := 399) (k := 0) (N := 1) (h := fun i => (σ2 99 i).toInt64) h399 rfl rfl (by decide) (by decide) (fun q => u_399 q) dL_all_8 ?_
    refine r_goto (pc := 9) C (tgt := 15) dL_all_9 (by decide) ?_
    refine r_iconst (pc := 15) C (v := 0) dL_all_15 (by decide) ?_
    exact r_iret C rfl dL_all_16 (Or.inl ⟨rfl, v, T2, ad2, σ2, hpp, rfl⟩) (by decide) (by decide)

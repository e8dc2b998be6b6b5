/-! ===== the constructors of the book and of its reference: from empty memories ===== -/
def zF : Nat → Int32 := fun _ => 0
def s0 : Mm := fun r => if r = 5 then pkF 76 else if r = 6 then fillF zF 50 5 else if r = 7 then fillF zF (-1) 5 else zF
def PreA (D : Gt) (S : St) (sz : Nat) (U : State) : Prop := PreB D S sz U ∧ va_AO RX3 U ∧ va_AO RX0 U
theorem KA_of {D : Gt} {l : Launch} {y : MethodName} {own : String} {cc : ByteArray} {n : Nat} {ret : Option FieldType} {rm : Room} {As : List Value} {S : St} {post : St → Prop} {mc ms : Nat} {L0 : List (Option Value)} (hy : plainName y.cls = true) (hown : y.cls = own) (hc : ∀ v ∈ As, v.category = 1) (hn : As.length ≤ n) (hL : As.map some ++ List.replicate (n - As.length) none = L0) (body : ∀ (p : Program) (e : Env) (s : State) (m : MethodId) (args : Array Value) (below : List Frame) (meth : Method) (c : Code) (A : Nat → Prop), meth.name = y.name → CX D A own cc n ret [] p s m args meth c → va_AO RX3 s → va_AO RX0 s → V D A n S p l e rm s m args below meth c 0 0 (vx_MQ below (va_Qv post (PoB D A) A) (XCs D S A nX) args s mc ms A) 0 L0 []) (sz : Nat) : vx_Met l y (uws y cc n ret) rm (va_Pc As (PreA D S sz)) (va_Qv post (PoB D (wA S sz)) (wA S sz)) (XCs D S (wA S sz) nX) mc ms (wA S sz) := by
  subst hown
  subst hL
  refine vx_ofW (cc := cc) (maxL := n) (ret := ret) hy rfl ?_
  intro p e s m args below meth c s₁ B hml htab hv
  obtain ⟨rfl, ⟨hsz, hP, hD, hK, hE, hZ⟩, ha3, ha0⟩ := hv
  have hts := atoms_spec (ws := uws y cc n ret) B.pre
  have htb : c.exceptionTable.toList = [] := List.eq_nil_iff_forall_not_mem.mpr (fun x hx => htab x hx)
  have C : CX D (wA S sz) y.cls cc n ret [] p s m As.toArray meth c := ⟨⟨B.exec, B.bytes, hml, findClass_of_methodNamed B.named, fun w hw => hts w (List.mem_cons_of_mem _ hw)⟩, hK, hE, hZ, B.returns, B.notSynchronized, fun q hq => Or.inr (by rw [← hsz]; exact hq), htb⟩
  have hV := body p e s m As.toArray below meth c (wA S sz) (name_of_methodNamed B.named B.method).1 C ha3 ha0
  rw [lg_entry_eq]
  refine hV s.heap [] _ hP (hD.weaken (fun k q hk _ => ?_)) va_S.rf (lL_entry hc hn)
  obtain ⟨t, ht, e⟩ := List.mem_map.mp (List.mem_of_getElem? hk)
  exact Or.inl ⟨t, ht, by rw [← e]⟩
set_option maxRecDepth 100000 in
set_option maxHeartbeats 4000000 in
theorem c_X5_init (l : Launch) (D : Gt) (ad : Nat → Nat) (F : Nat → va_E) {a : Nat} (ha : ad 0 = a) : ∀ sz : Nat, vx_Met l yX5_init (uws yX5_init cX5_init 1 none) (RM 3 14 247) (va_Pc [.ref a] (PreA D ([0], ad, va_up F 0 (.inr (5, [.null, .int 0, .null, .int 0, .null, .null, .null, .null, .null, .int 0, .null, .null, .int 0, .int 0, .null, .null, .null]))) sz)) (va_Qv (fun S1 => ∃ ad' : Nat → Nat, S1 = ([0, 1, 2, 3, 4, 5, 6, 7, 8, 9, 10, 11, 12, 13, 14], ad', cO D ad' s0) ∧ ad' 0 = a) (PoB D (wA ([0], ad, va_up F 0 (.inr (5, [.null, .int 0, .null, .int 0, .null, .null, .null, .null, .null, .int 0, .null, .null, .int 0, .int 0, .null, .null, .null]))) sz)) (wA ([0], ad, va_up F 0 (.inr (5, [.null, .int 0, .null, .int 0, .null, .null, .null, .null, .null, .int 0, .null, .null, .int 0, .int 0, .null, .null, .null]))) sz)) (XCs D ([0], ad, va_up F 0 (.inr (5, [.null, .int 0, .null, .int 0, .null, .null, .null, .null, .null, .int 0, .null, .null, .int 0, .int 0, .null, .null, .null]))) (wA ([0], ad, va_up F 0 (.inr (5, [.null, .int 0, .null, .int 0, .null, .null, .null, .null, .null, .int 0, .null, .null, .int 0, .int 0, .null, .null, .null]))) sz) nX) 14 247 (wA ([0], ad, va_up F 0 (.inr (5, [.null, .int 0, .null, .int 0, .null, .null, .null, .null, .null, .int 0, .null, .null, .int 0, .int 0, .null, .null, .null]))) sz) := by
  refine KA_of (own := RX5) (L0 := [some (.ref a)]) (by decide +kernel) rfl (catc rfl cat0) (Nat.le_of_ble_eq_true rfl) rfl ?_
  intro p e s m args below meth c A hnm C hao3 hao0
  refine r_aload0 (pc := 0) C dX5_init_0 ?_
  refine kX5_1 (pc := 1) C ⟨by decide, Nat.le_of_ble_eq_true rfl⟩ dX5_init_1 ?_
  refine r_aload0 (pc := 4) C dX5_init_4 ?_
  refine r_bipush (pc := 5) C (v := 12) dX5_init_5 (by decide) ?_
  refine r_nac_int (pc := 7) C (t := 1) (N := 12) (by decide) rfl (by decide) (not_in (by decide)) (by decide) dX5_init_7 (fun q1 => ?_)
  have ha1 : (au ad 1 q1) 0 = a := (au_ne (by decide)).trans ha
  refine qX5_9 (pc := 9) C hnm (fs2 := [.ref q1, .int 0, .null, .int 0, .null, .null, .null, .null, .null, .int 0, .null, .null, .int 0, .int 0, .null, .null, .null]) ha1 (by decide) rfl rfl dX5_init_9 ?_
  refine r_aload0 (pc := 12) C dX5_init_12 ?_
  refine r_bipush (pc := 13) C (v := 40) dX5_init_13 (by decide) ?_
  refine r_naq_3 (pc := 15) C hao3 (t := 2) (N := 40) (by decide) rfl (by decide) kl_RX5_13 (not_in (by decide)) (by decide) dX5_init_15 (fun q2 => ?_)
  have ha2 : (au (au ad 1 q1) 2 q2) 0 = a := (au_ne (by decide)).trans ha1
  refine qX5_15 (pc := 18) C hnm (fs2 := [.ref q1, .int 0, .ref q2, .int 0, .null, .null, .null, .null, .null, .int 0, .null, .null, .int 0, .int 0, .null, .null, .null]) ha2 (by decide) rfl rfl dX5_init_18 ?_
  refine r_aload0 (pc := 21) C dX5_init_21 ?_
  refine r_iconst (pc := 22) C (v := 4) dX5_init_22 (by decide) ?_
  refine r_nac_int (pc := 23) C (t := 3) (N := 4) (by decide) rfl (by decide) (not_in (by decide)) (by decide) dX5_init_23 (fun q3 => ?_)
  have ha3 : (au (au (au ad 1 q1) 2 q2) 3 q3) 0 = a := (au_ne (by decide)).trans ha2
  refine qX5_19 (pc := 25) C hnm (fs2 := [.ref q1, .int 0, .ref q2, .int 0, .ref q3, .null, .null, .null, .null, .int 0, .null, .null, .int 0, .int 0, .null, .null, .null]) ha3 (by decide) rfl rfl dX5_init_25 ?_
  refine r_aload0 (pc := 28) C dX5_init_28 ?_
  refine r_new (pc := 29) C inU2 (ci := 2) (t := 4) (fs := [.null]) rfl tyX2 tyX2_ok kl_RX5_22 ia_L2 iz_L2 (fun j hj => by
      rcases j with _ | j <;> first | rfl | omega) (not_in (by decide)) (by decide) dX5_init_29 (fun q4 => ?_)
  have ha4 : (au (au (au (au ad 1 q1) 2 q2) 3 q3) 4 q4) 0 = a := (au_ne (by decide)).trans ha3
  refine r_dup (pc := 32) C dX5_init_32 rfl ?_
  refine V_st (st2 := [.ref ((au (au (au (au ad 1 q1) 2 q2) 3 q3) 4 q4) 4), .ref q4, .ref a]) rfl ?_
  refine kX5_24x (pc := 33) C (c_X2_init l D _ _ _ (t := 4) (u := 5) (a := (au (au (au (au ad 1 q1) 2 q2) 3 q3) 4 q4) 4) (by decide) (not_in (by decide)) rfl) dX5_init_33 (Nat.le_of_ble_eq_true rfl) (by decide) (fun _ h => h) (fun h => h.elim (fun _ z => z.elim)) ?_
  rintro _ ⟨q5, rfl⟩
  have ha5 : (au (au (au (au (au ad 1 q1) 2 q2) 3 q3) 4 q4) 5 q5) 0 = a := (au_ne (by decide)).trans ha4
  rw [up_comm (a := 0) (b := 5) (by decide), up_comm (a := 0) (b := 4) (by decide)]
  refine qX5_25 (pc := 36) C hnm (fs2 := [.ref q1, .int 0, .ref q2, .int 0, .ref q3, .ref q4, .null, .null, .null, .int 0, .null, .null, .int 0, .int 0, .null, .null, .null]) ha5 (by decide) rfl rfl dX5_init_36 ?_
  refine r_aload0 (pc := 39) C dX5_init_39 ?_
  refine r_iconst (pc := 40) C (v := 5) dX5_init_40 (by decide) ?_
  refine r_nac_int (pc := 41) C (t := 6) (N := 5) (by decide) rfl (by decide) (not_in (by decide)) (by decide) dX5_init_41 (fun q6 => ?_)
  have ha6 : (au (au (au (au (au (au ad 1 q1) 2 q2) 3 q3) 4 q4) 5 q5) 6 q6) 0 = a := (au_ne (by decide)).trans ha5
  refine qX5_29 (pc := 43) C hnm (fs2 := [.ref q1, .int 0, .ref q2, .int 0, .ref q3, .ref q4, .ref q6, .null, .null, .int 0, .null, .null, .int 0, .int 0, .null, .null, .null]) ha6 (by decide) rfl rfl dX5_init_43 ?_
  refine r_aload0 (pc := 46) C dX5_init_46 ?_
  refine r_iconst (pc := 47) C (v := 5) dX5_init_47 (by decide) ?_
  refine r_nac_int (pc := 48) C (t := 7) (N := 5) (by decide) rfl (by decide) (not_in (by decide)) (by decide) dX5_init_48 (fun q7 => ?_)
  have ha7 : (au (au (au (au (au (au (au ad 1 q1) 2 q2) 3 q3) 4 q4) 5 q5) 6 q6) 7 q7) 0 = a := (au_ne (by decide)).trans ha6
  refine qX5_32 (pc := 50) C hnm (fs2 := [.ref q1, .int 0, .ref q2, .int 0, .ref q3, .ref q4, .ref q6, .ref q7, .null, .int 0, .null, .null, .int 0, .int 0, .null, .null, .null]) ha7 (by decide) rfl rfl dX5_init_50 ?_
  refine r_aload0 (pc := 53) C dX5_init_53 ?_
  refine r_iconst (pc := 54) C (v := 5) dX5_init_54 (by decide) ?_
  refine r_nac_int (pc := 55) C (t := 8) (N := 5) (by decide) rfl (by decide) (not_in (by decide)) (by decide) dX5_init_55 (fun q8 => ?_)
  have ha8 : (au (au (au (au (au (au (au (au ad 1 q1) 2 q2) 3 q3) 4 q4) 5 q5) 6 q6) 7 q7) 8 q8) 0 = a := (au_ne (by decide)).trans ha7
  refine qX5_35 (pc := 57) C hnm (fs2 := [.ref q1, .int 0, .ref q2, .int 0, .ref q3, .ref q4, .ref q6, .ref q7, .ref q8, .int 0, .null, .null, .int 0, .int 0, .null, .null, .null]) ha8 (by decide) rfl rfl dX5_init_57 ?_
  refine r_aload0 (pc := 60) C dX5_init_60 ?_
  refine r_new (pc := 61) C inU4 (ci := 4) (t := 9) (fs := [.null, .int 0, .null]) rfl tyX4 tyX4_ok kl_RX5_38 ia_L4 iz_L4 (fun j hj => by
      rcases j with _ | _ | _ | j <;> first | rfl | omega) (not_in (by decide)) (by decide) dX5_init_61 (fun q9 => ?_)
  have ha9 : (au (au (au (au (au (au (au (au (au ad 1 q1) 2 q2) 3 q3) 4 q4) 5 q5) 6 q6) 7 q7) 8 q8) 9 q9) 0 = a := (au_ne (by decide)).trans ha8
  refine r_dup (pc := 64) C dX5_init_64 rfl ?_
  refine V_st (st2 := [.ref ((au (au (au (au (au (au (au (au (au ad 1 q1) 2 q2) 3 q3) 4 q4) 5 q5) 6 q6) 7 q7) 8 q8) 9 q9) 9), .ref q9, .ref a]) rfl ?_
  refine kX5_40x (pc := 65) C (c_X4_init l D _ _ _ (t := 9) (u := 10) (a := (au (au (au (au (au (au (au (au (au ad 1 q1) 2 q2) 3 q3) 4 q4) 5 q5) 6 q6) 7 q7) 8 q8) 9 q9) 9) (by decide) (not_in (by decide)) rfl) dX5_init_65 (Nat.le_of_ble_eq_true rfl) (by decide) (fun _ h => h) (fun h => h.elim (fun _ z => z.elim)) ?_
  rintro _ ⟨q10, rfl⟩
  have ha10 : (au (au (au (au (au (au (au (au (au (au ad 1 q1) 2 q2) 3 q3) 4 q4) 5 q5) 6 q6) 7 q7) 8 q8) 9 q9) 10 q10) 0 = a := (au_ne (by decide)).trans ha9
  rw [up_comm (a := 0) (b := 10) (by decide), up_comm (a := 0) (b := 9) (by decide)]
  refine qX5_41 (pc := 68) C hnm (fs2 := [.ref q1, .int 0, .ref q2, .int 0, .ref q3, .ref q4, .ref q6, .ref q7, .ref q8, .int 0, .ref q9, .null, .int 0, .int 0, .null, .null, .null]) ha10 (by decide) rfl rfl dX5_init_68 ?_
  refine r_aload0 (pc := 71) C dX5_init_71 ?_
  refine r_bipush (pc := 72) C (v := 80) dX5_init_72 (by decide) ?_
  refine r_naq_0 (pc := 74) C hao0 (t := 11) (N := 80) (by decide) rfl (by decide) kl_RX5_45 (not_in (by decide)) (by decide) dX5_init_74 (fun q11 => ?_)
  have ha11 : (au (au (au (au (au (au (au (au (au (au (au ad 1 q1) 2 q2) 3 q3) 4 q4) 5 q5) 6 q6) 7 q7) 8 q8) 9 q9) 10 q10) 11 q11) 0 = a := (au_ne (by decide)).trans ha10
  refine qX5_47 (pc := 77) C hnm (fs2 := [.ref q1, .int 0, .ref q2, .int 0, .ref q3, .ref q4, .ref q6, .ref q7, .ref q8, .int 0, .ref q9, .ref q11, .int 0, .int 0, .null, .null, .null]) ha11 (by decide) rfl rfl dX5_init_77 ?_
  refine r_aload0 (pc := 80) C dX5_init_80 ?_
  refine r_iconst (pc := 81) C (v := 3) dX5_init_81 (by decide) ?_
  refine r_nac_int (pc := 82) C (t := 12) (N := 3) (by decide) rfl (by decide) (not_in (by decide)) (by decide) dX5_init_82 (fun q12 => ?_)
  have ha12 : (au (au (au (au (au (au (au (au (au (au (au (au ad 1 q1) 2 q2) 3 q3) 4 q4) 5 q5) 6 q6) 7 q7) 8 q8) 9 q9) 10 q10) 11 q11) 12 q12) 0 = a := (au_ne (by decide)).trans ha11
  refine qX5_51 (pc := 84) C hnm (fs2 := [.ref q1, .int 0, .ref q2, .int 0, .ref q3, .ref q4, .ref q6, .ref q7, .ref q8, .int 0, .ref q9, .ref q11, .int 0, .int 0, .ref q12, .null, .null]) ha12 (by decide) rfl rfl dX5_init_84 ?_
  refine r_aload0 (pc := 87) C dX5_init_87 ?_
  refine r_iconst (pc := 88) C (v := 4) dX5_init_88 (by decide) ?_
  refine r_nac_int (pc := 89) C (t := 13) (N := 4) (by decide) rfl (by decide) (not_in (by decide)) (by decide) dX5_init_89 (fun q13 => ?_)
  have ha13 : (au (au (au (au (au (au (au (au (au (au (au (au (au ad 1 q1) 2 q2) 3 q3) 4 q4) 5 q5) 6 q6) 7 q7) 8 q8) 9 q9) 10 q10) 11 q11) 12 q12) 13 q13) 0 = a := (au_ne (by decide)).trans ha12
  refine qX5_54 (pc := 91) C hnm (fs2 := [.ref q1, .int 0, .ref q2, .int 0, .ref q3, .ref q4, .ref q6, .ref q7, .ref q8, .int 0, .ref q9, .ref q11, .int 0, .int 0, .ref q12, .ref q13, .null]) ha13 (by decide) rfl rfl dX5_init_91 ?_
  refine r_aload0 (pc := 94) C dX5_init_94 ?_
  refine r_iconst (pc := 95) C (v := 4) dX5_init_95 (by decide) ?_
  refine r_nac_int (pc := 96) C (t := 14) (N := 4) (by decide) rfl (by decide) (not_in (by decide)) (by decide) dX5_init_96 (fun q14 => ?_)
  have ha14 : (au (au (au (au (au (au (au (au (au (au (au (au (au (au ad 1 q1) 2 q2) 3 q3) 4 q4) 5 q5) 6 q6) 7 q7) 8 q8) 9 q9) 10 q10) 11 q11) 12 q12) 13 q13) 14 q14) 0 = a := (au_ne (by decide)).trans ha13
  refine qX5_57 (pc := 98) C hnm (fs2 := [.ref q1, .int 0, .ref q2, .int 0, .ref q3, .ref q4, .ref q6, .ref q7, .ref q8, .int 0, .ref q9, .ref q11, .int 0, .int 0, .ref q12, .ref q13, .ref q14]) ha14 (by decide) rfl rfl dX5_init_98 ?_
  refine r_aload0 (pc := 101) C dX5_init_101 ?_
  refine r_getfA (pc := 102) C inU5 (ci := 5) rfl 6 (by decide) fl_RX5_29 rfl (t := 0) (fs := [.ref q1, .int 0, .ref q2, .int 0, .ref q3, .ref q4, .ref q6, .ref q7, .ref q8, .int 0, .ref q9, .ref q11, .int 0, .int 0, .ref q12, .ref q13, .ref q14]) ha14 (by decide) rfl rfl dX5_init_102 ?_
  refine r_bipush (pc := 105) C (v := 50) dX5_init_105 (by decide) ?_
  refine V_st (st2 := [.int 50, .ref ((au (au (au (au (au (au (au (au (au (au (au (au (au (au ad 1 q1) 2 q2) 3 q3) 4 q4) 5 q5) 6 q6) 7 q7) 8 q8) 9 q9) 10 q10) 11 q11) 12 q12) 13 q13) 14 q14) 6)]) rfl ?_
  refine kX5_60 (pc := 107) C (c_J7_fill_53178 l D _ _ _ (t := 6) (N := 5) (h := fun _ => 0) (by decide) rfl (by decide) 50) dX5_init_107 (Nat.le_of_ble_eq_true rfl) (by decide) ?_
  rintro _ rfl
  refine r_aload0 (pc := 110) C dX5_init_110 ?_
  refine r_getfA (pc := 111) C inU5 (ci := 5) rfl 7 (by decide) fl_RX5_32 rfl (t := 0) (fs := [.ref q1, .int 0, .ref q2, .int 0, .ref q3, .ref q4, .ref q6, .ref q7, .ref q8, .int 0, .ref q9, .ref q11, .int 0, .int 0, .ref q12, .ref q13, .ref q14]) ha14 (by decide) rfl rfl dX5_init_111 ?_
  refine r_iconst (pc := 114) C (v := (-1)) dX5_init_114 (by decide) ?_
  refine V_st (st2 := [.int (-1), .ref ((au (au (au (au (au (au (au (au (au (au (au (au (au (au ad 1 q1) 2 q2) 3 q3) 4 q4) 5 q5) 6 q6) 7 q7) 8 q8) 9 q9) 10 q10) 11 q11) 12 q12) 13 q13) 14 q14) 7)]) rfl ?_
  refine kX5_60 (pc := 115) C (c_J7_fill_53178 l D _ _ _ (t := 7) (N := 5) (h := fun _ => 0) (by decide) rfl (by decide) (-1)) dX5_init_115 (Nat.le_of_ble_eq_true rfl) (by decide) ?_
  rintro _ rfl
  refine r_cg (ad2 := (au (au (au (au (au (au (au (au (au (au (au (au (au (au ad 1 q1) 2 q2) 3 q3) 4 q4) 5 q5) 6 q6) 7 q7) 8 q8) 9 q9) 10 q10) 11 q11) 12 q12) 13 q13) 14 q14)) (g := cO D (au (au (au (au (au (au (au (au (au (au (au (au (au (au ad 1 q1) 2 q2) 3 q3) 4 q4) 5 q5) 6 q6) 7 q7) 8 q8) 9 q9) 10 q10) 11 q11) 12 q12) 13 q13) 14 q14) s0) (fun _ _ => rfl) (fun k hk => ?_) ?_
  · rcases (show k = 0 ∨ k = 1 ∨ k = 2 ∨ k = 3 ∨ k = 4 ∨ k = 5 ∨ k = 6 ∨ k = 7 ∨ k = 8 ∨ k = 9 ∨ k = 10 ∨ k = 11 ∨ k = 12 ∨ k = 13 ∨ k = 14 by simpa using hk) with rfl | rfl | rfl | rfl | rfl | rfl | rfl | rfl | rfl | rfl | rfl | rfl | rfl | rfl | rfl <;> rfl
  exact r_vret C rfl dX5_init_118 (⟨(au (au (au (au (au (au (au (au (au (au (au (au (au (au ad 1 q1) 2 q2) 3 q3) 4 q4) 5 q5) 6 q6) 7 q7) 8 q8) 9 q9) 10 q10) 11 q11) 12 q12) 13 q13) 14 q14), rfl, ha14⟩) (by decide) (by decide)

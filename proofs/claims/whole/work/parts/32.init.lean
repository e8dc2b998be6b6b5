/-! ===== the constructors of the book and of its reference: from empty memories ===== -/
def zF : Nat → Int32 := fun _ => 0
def s0 : Mm := fun r => if r = 5 then pkF 76 else if r = 77 then pkF 76 else if r = 6 then fillF zF 50 5 else if r = 82 then fillF zF 50 5 else if r = 7 then fillF zF (-1) 5 else if r = 81 then fillF zF (-1) 5 else if r = 60 then (fun j => if j = 23 then -1 else 0) else zF
def sI (a b : Nat) : Mm := fun r => if r = 77 then pkF a else if r = 82 then fillF zF 50 b else if r = 81 then fillF zF (-1) b else s0 r
theorem sI_0 : sI 0 0 77 = zF ∧ sI 0 0 82 = zF ∧ sI 0 0 81 = zF := ⟨pkF_0, fillF_0 (h := zF) (x := 50), fillF_0 (h := zF) (x := -1)⟩
theorem sI_p {k : Nat} : up (sI k 0) 77 k (pkV k) = sI (k + 1) 0 := by
  funext r
  by_cases h : r = 77
  · subst h; rw [up_eq]; exact pkF_s
  · rw [up_ne h]; show (if r = 77 then _ else _) = (if r = 77 then _ else _); rw [if_neg h, if_neg h]
theorem sI_f {k : Nat} : up (up (sI 76 k) 82 k 50) 81 k (-1) = sI 76 (k + 1) := by
  funext r
  by_cases h : r = 81
  · subst h; rw [up_eq, up_ne (by decide)]; exact fillF_s
  · rw [up_ne h]
    by_cases h2 : r = 82
    · subst h2; rw [up_eq]; exact fillF_s
    · rw [up_ne h2]
      show (if r = 77 then _ else if r = 82 then _ else if r = 81 then _ else _) = (if r = 77 then _ else if r = 82 then _ else if r = 81 then _ else _)
      rw [if_neg h, if_neg h2, if_neg h, if_neg h2]
theorem sI_e : sI 76 5 = s0 := by
  funext r
  show (if r = 77 then _ else if r = 82 then _ else if r = 81 then _ else _) = _
  by_cases h : r = 77
  · subst h; rw [if_pos rfl]; rfl
  · rw [if_neg h]
    by_cases h2 : r = 82
    · subst h2; rw [if_pos rfl]; rfl
    · rw [if_neg h2]
      by_cases h3 : r = 81
      · subst h3; rw [if_pos rfl]; rfl
      · rw [if_neg h3]
def PreA (D : Gt) (S : St) (sz : Nat) (U : State) : Prop := PreB D S sz U ∧ va_AO RX3 U ∧ va_AO RX0 U
theorem KA_of {D : Gt} {l : Launch} {y : MethodName} {own : String} {cc : ByteArray} {n : Nat} {ret : Option FieldType} {rm : Room} {As : List Value} {S : St} {post : St → Prop} {mc ms : Nat} {L0 : List (Option Value)} (hy : plainName y.cls = true) (hown : y.cls = own) (hc : ∀ v ∈ As, v.category = 1) (hn : As.length ≤ n) (hL : As.map some ++ List.replicate (n - As.length) none = L0) (body : ∀ (p : Program) (e : Env) (s : State) (m : MethodId) (args : Array Value) (below : List Frame) (meth : Method) (c : Code) (A : Nat → Prop), meth.name = y.name → CX D A own cc n ret [] p s m args meth c → va_AO RX3 s → va_AO RX0 s → V D A n S p l e rm s m args below meth c 0 0 (vx_MQ below (va_Qv post (PoB D A) A) (XCs D S A nX) args s mc ms A) 0 L0 []) (sz : Nat) : vx_Met l y (uws y cc n ret) rm (va_Pc As (PreA D S sz)) (va_Qv post (PoB D (wA S sz)) (wA S sz)) (XCs D S (wA S sz) nX) mc ms (wA S sz) := by
  subst hown
  subst hL
  refine vx_ofW (cc := cc) (maxL := n) (ret := ret) hy rfl ?_
  intro p e s m args below meth c s₁ B hml htab hv
  obtain ⟨rfl, ⟨hsz, hP, hD, hK, hE, hZ⟩, ha3, ha0⟩ := hv
  have hts := atoms_spec (ws := uws y cc n ret) B.pre
  have htb : c.exceptionTable.toList = [] := List.eq_nil_iff_forall_not_mem.mpr (fun x hx => htab x hx)
  have C : CX D (wA S sz) y.cls cc n ret [] p s m As.toArray meth c := ⟨⟨B.exec, B.bytes, hml, findClass_of_methodNamed B.named, fun w hw => hts w (List.mem_cons_of_mem _ hw)⟩, hK, hE, hZ, B.returns, B.notSynchronized, fun q hq => Or.inr (by rw [← hsz]; exact hq), htb⟩
  have hV := body p e s m As.toArray below meth c (wA S sz) (name_of_methodNamed B.named B.method).1 C ha3 ha0
  rw [lg_entry_eq]
  refine hV s.heap [] _ hP (hD.weaken (fun k q hk _ => ?_)) va_S.rf (lL_entry hc hn)
  obtain ⟨t, ht, e⟩ := List.mem_map.mp (List.mem_of_getElem? hk)
  exact Or.inl ⟨t, ht, by rw [← e]⟩
set_option maxRecDepth 100000 in
set_option maxHeartbeats 4000000 in
theorem c_X5_init (l : Launch) (D : Gt) (ad : Nat → Nat) (F : Nat → va_E) {a : Nat} (ha : ad 0 = a) : ∀ sz : Nat, vx_Met l yX5_init (uws yX5_init cX5_init 1 none) (RM 3 14 247) (va_Pc [.ref a] (PreA D ([0], ad, va_up F 0 (.inr (5, [.null, .int 0, .null, .int 0, .null, .null, .null, .null, .null, .int 0, .null, .null, .int 0, .int 0, .null, .null, .null]))) sz)) (va_Qv (fun S1 => ∃ ad' : Nat → Nat, S1 = ([0, 1, 2, 3, 4, 5, 6, 7, 8, 9, 10, 11, 12, 13, 14], ad', cO D ad' s0) ∧ ad' 0 = a) (PoB D (wA ([0], ad, va_up F 0 (.inr (5, [.null, .int 0, .null, .int 0, .null, .null, .null, .null, .null, .int 0, .null, .null, .int 0, .int 0, .null, .null, .null]))) sz)) (wA ([0], ad, va_up F 0 (.inr (5, [.null, .int 0, .null, .int 0, .null, .null, .null, .null, .null, .int 0, .null, .null, .int 0, .int 0, .null, .null, .null]))) sz)) (XCs D ([0], ad, va_up F 0 (.inr (5, [.null, .int 0, .null, .int 0, .null, .null, .null, .null, .null, .int 0, .null, .null, .int 0, .int 0, .null, .null, .null]))) (wA ([0], ad, va_up F 0 (.inr (5, [.null, .int 0, .null, .int 0, .null, .null, .null, .null, .null, .int 0, .null, .null, .int 0, .int 0, .null, .null, .null]))) sz) nX) 14 247 (wA ([0], ad, va_up F 0 (.inr (5, [.null, .int 0, .null, .int 0, .null, .null, .null, .null, .null, .int 0, .null, .null, .int 0, .int 0, .null, .null, .null]))) sz) := by
  refine KA_of (own := RX5) (L0 := [some (.ref a)]) (by decide +kernel) rfl (catc rfl cat0) (Nat.le_of_ble_eq_true rfl) rfl ?_
  intro p e s m args below meth c A hnm C hao3 hao0
  refine r_aload0 (pc := 0) C dX5_init_0 ?_
  refine kX5_1 (pc := 1) C ⟨by decide, Nat.le_of_ble_eq_true rfl⟩ dX5_init_1 ?_
  refine r_aload0 (pc := 4) C dX5_init_4 ?_
  refine r_bipush (pc := 5) C (v := 12) dX5_init_5 (by decide) ?_
  refine r_nac_int (pc := 7) C (t := 1) (N := 12) (by decide) rfl (by decide) (not_in (by decide)) (by decide) dX5_init_7 (fun q1 => ?_)
  have ha1 : (au ad 1 q1) 0 = a := (au_ne (by decide)).trans ha
  refine qX5_9 (pc := 9) C hnm (fs2 := [.ref q1, .int 0, .null, .int 0, .null, .null, .null, .null, .null, .int 0, .null, .null, .int 0, .int 0, .null, .null, .null]) ha1 (by decide) rfl rfl dX5_init_9 ?_
  refine r_aload0 (pc := 12) C dX5_init_12 ?_
  refine r_bipush (pc := 13) C (v := 40) dX5_init_13 (by decide) ?_
  refine r_naq_3 (pc := 15) C hao3 (t := 2) (N := 40) (by decide) rfl (by decide) kl_RX5_13 (not_in (by decide)) (by decide) dX5_init_15 (fun q2 => ?_)
  have ha2 : (au (au ad 1 q1) 2 q2) 0 = a := (au_ne (by decide)).trans ha1
  refine qX5_15 (pc := 18) C hnm (fs2 := [.ref q1, .int 0, .ref q2, .int 0, .null, .null, .null, .null, .null, .int 0, .null, .null, .int 0, .int 0, .null, .null, .null]) ha2 (by decide) rfl rfl dX5_init_18 ?_
  refine r_aload0 (pc := 21) C dX5_init_21 ?_
  refine r_iconst (pc := 22) C (v := 4) dX5_init_22 (by decide) ?_
  refine r_nac_int (pc := 23) C (t := 3) (N := 4) (by decide) rfl (by decide) (not_in (by decide)) (by decide) dX5_init_23 (fun q3 => ?_)
  have ha3 : (au (au (au ad 1 q1) 2 q2) 3 q3) 0 = a := (au_ne (by decide)).trans ha2
  refine qX5_19 (pc := 25) C hnm (fs2 := [.ref q1, .int 0, .ref q2, .int 0, .ref q3, .null, .null, .null, .null, .int 0, .null, .null, .int 0, .int 0, .null, .null, .null]) ha3 (by decide) rfl rfl dX5_init_25 ?_
  refine r_aload0 (pc := 28) C dX5_init_28 ?_
  refine r_new (pc := 29) C inU2 (ci := 2) (t := 4) (fs := [.null]) rfl tyX2 tyX2_ok kl_RX5_22 ia_L2 iz_L2 (fun j hj => by
      rcases j with _ | j <;> first | rfl | omega) (not_in (by decide)) (by decide) dX5_init_29 (fun q4 => ?_)
  have ha4 : (au (au (au (au ad 1 q1) 2 q2) 3 q3) 4 q4) 0 = a := (au_ne (by decide)).trans ha3
  refine r_dup (pc := 32) C dX5_init_32 rfl ?_
  refine V_st (st2 := [.ref ((au (au (au (au ad 1 q1) 2 q2) 3 q3) 4 q4) 4), .ref q4, .ref a]) rfl ?_
  refine kX5_24x (pc := 33) C (c_X2_init l D _ _ _ (t := 4) (u := 5) (a := (au (au (au (au ad 1 q1) 2 q2) 3 q3) 4 q4) 4) (by decide) (not_in (by decide)) rfl) dX5_init_33 (Nat.le_of_ble_eq_true rfl) (by decide) (fun _ h => h) (fun h => h.elim (fun _ z => z.elim)) ?_
  rintro _ ⟨q5, rfl⟩
  have ha5 : (au (au (au (au (au ad 1 q1) 2 q2) 3 q3) 4 q4) 5 q5) 0 = a := (au_ne (by decide)).trans ha4
  rw [up_comm (a := 0) (b := 5) (by decide), up_comm (a := 0) (b := 4) (by decide)]
  refine qX5_25 (pc := 36) C hnm (fs2 := [.ref q1, .int 0, .ref q2, .int 0, .ref q3, .ref q4, .null, .null, .null, .int 0, .null, .null, .int 0, .int 0, .null, .null, .null]) ha5 (by decide) rfl rfl dX5_init_36 ?_
  refine r_aload0 (pc := 39) C dX5_init_39 ?_
  refine r_iconst (pc := 40) C (v := 5) dX5_init_40 (by decide) ?_
  refine r_nac_int (pc := 41) C (t := 6) (N := 5) (by decide) rfl (by decide) (not_in (by decide)) (by decide) dX5_init_41 (fun q6 => ?_)
  have ha6 : (au (au (au (au (au (au ad 1 q1) 2 q2) 3 q3) 4 q4) 5 q5) 6 q6) 0 = a := (au_ne (by decide)).trans ha5
  refine qX5_29 (pc := 43) C hnm (fs2 := [.ref q1, .int 0, .ref q2, .int 0, .ref q3, .ref q4, .ref q6, .null, .null, .int 0, .null, .null, .int 0, .int 0, .null, .null, .null]) ha6 (by decide) rfl rfl dX5_init_43 ?_
  refine r_aload0 (pc := 46) C dX5_init_46 ?_
  refine r_iconst (pc := 47) C (v := 5) dX5_init_47 (by decide) ?_
  refine r_nac_int (pc := 48) C (t := 7) (N := 5) (by decide) rfl (by decide) (not_in (by decide)) (by decide) dX5_init_48 (fun q7 => ?_)
  have ha7 : (au (au (au (au (au (au (au ad 1 q1) 2 q2) 3 q3) 4 q4) 5 q5) 6 q6) 7 q7) 0 = a := (au_ne (by decide)).trans ha6
  refine qX5_32 (pc := 50) C hnm (fs2 := [.ref q1, .int 0, .ref q2, .int 0, .ref q3, .ref q4, .ref q6, .ref q7, .null, .int 0, .null, .null, .int 0, .int 0, .null, .null, .null]) ha7 (by decide) rfl rfl dX5_init_50 ?_
  refine r_aload0 (pc := 53) C dX5_init_53 ?_
  refine r_iconst (pc := 54) C (v := 5) dX5_init_54 (by decide) ?_
  refine r_nac_int (pc := 55) C (t := 8) (N := 5) (by decide) rfl (by decide) (not_in (by decide)) (by decide) dX5_init_55 (fun q8 => ?_)
  have ha8 : (au (au (au (au (au (au (au (au ad 1 q1) 2 q2) 3 q3) 4 q4) 5 q5) 6 q6) 7 q7) 8 q8) 0 = a := (au_ne (by decide)).trans ha7
  refine qX5_35 (pc := 57) C hnm (fs2 := [.ref q1, .int 0, .ref q2, .int 0, .ref q3, .ref q4, .ref q6, .ref q7, .ref q8, .int 0, .null, .null, .int 0, .int 0, .null, .null, .null]) ha8 (by decide) rfl rfl dX5_init_57 ?_
  refine r_aload0 (pc := 60) C dX5_init_60 ?_
  refine r_new (pc := 61) C inU4 (ci := 4) (t := 9) (fs := [.null, .int 0, .null]) rfl tyX4 tyX4_ok kl_RX5_38 ia_L4 iz_L4 (fun j hj => by
      rcases j with _ | _ | _ | j <;> first | rfl | omega) (not_in (by decide)) (by decide) dX5_init_61 (fun q9 => ?_)
  have ha9 : (au (au (au (au (au (au (au (au (au ad 1 q1) 2 q2) 3 q3) 4 q4) 5 q5) 6 q6) 7 q7) 8 q8) 9 q9) 0 = a := (au_ne (by decide)).trans ha8
  refine r_dup (pc := 64) C dX5_init_64 rfl ?_
  refine V_st (st2 := [.ref ((au (au (au (au (au (au (au (au (au ad 1 q1) 2 q2) 3 q3) 4 q4) 5 q5) 6 q6) 7 q7) 8 q8) 9 q9) 9), .ref q9, .ref a]) rfl ?_
  refine kX5_40x (pc := 65) C (c_X4_init l D _ _ _ (t := 9) (u := 10) (a := (au (au (au (au (au (au (au (au (au ad 1 q1) 2 q2) 3 q3) 4 q4) 5 q5) 6 q6) 7 q7) 8 q8) 9 q9) 9) (by decide) (not_in (by decide)) rfl) dX5_init_65 (Nat.le_of_ble_eq_true rfl) (by decide) (fun _ h => h) (fun h => h.elim (fun _ z => z.elim)) ?_
  rintro _ ⟨q10, rfl⟩
  have ha10 : (au (au (au (au (au (au (au (au (au (au ad 1 q1) 2 q2) 3 q3) 4 q4) 5 q5) 6 q6) 7 q7) 8 q8) 9 q9) 10 q10) 0 = a := (au_ne (by decide)).trans ha9
  rw [up_comm (a := 0) (b := 10) (by decide), up_comm (a := 0) (b := 9) (by decide)]
  refine qX5_41 (pc := 68) C hnm (fs2 := [.ref q1, .int 0, .ref q2, .int 0, .ref q3, .ref q4, .ref q6, .ref q7, .ref q8, .int 0, .ref q9, .null, .int 0, .int 0, .null, .null, .null]) ha10 (by decide) rfl rfl dX5_init_68 ?_
  refine r_aload0 (pc := 71) C dX5_init_71 ?_
  refine r_bipush (pc := 72) C (v := 80) dX5_init_72 (by decide) ?_
  refine r_naq_0 (pc := 74) C hao0 (t := 11) (N := 80) (by decide) rfl (by decide) kl_RX5_45 (not_in (by decide)) (by decide) dX5_init_74 (fun q11 => ?_)
  have ha11 : (au (au (au (au (au (au (au (au (au (au (au ad 1 q1) 2 q2) 3 q3) 4 q4) 5 q5) 6 q6) 7 q7) 8 q8) 9 q9) 10 q10) 11 q11) 0 = a := (au_ne (by decide)).trans ha10
  refine qX5_47 (pc := 77) C hnm (fs2 := [.ref q1, .int 0, .ref q2, .int 0, .ref q3, .ref q4, .ref q6, .ref q7, .ref q8, .int 0, .ref q9, .ref q11, .int 0, .int 0, .null, .null, .null]) ha11 (by decide) rfl rfl dX5_init_77 ?_
  refine r_aload0 (pc := 80) C dX5_init_80 ?_
  refine r_iconst (pc := 81) C (v := 3) dX5_init_81 (by decide) ?_
  refine r_nac_int (pc := 82) C (t := 12) (N := 3) (by decide) rfl (by decide) (not_in (by decide)) (by decide) dX5_init_82 (fun q12 => ?_)
  have ha12 : (au (au (au (au (au (au (au (au (au (au (au (au ad 1 q1) 2 q2) 3 q3) 4 q4) 5 q5) 6 q6) 7 q7) 8 q8) 9 q9) 10 q10) 11 q11) 12 q12) 0 = a := (au_ne (by decide)).trans ha11
  refine qX5_51 (pc := 84) C hnm (fs2 := [.ref q1, .int 0, .ref q2, .int 0, .ref q3, .ref q4, .ref q6, .ref q7, .ref q8, .int 0, .ref q9, .ref q11, .int 0, .int 0, .ref q12, .null, .null]) ha12 (by decide) rfl rfl dX5_init_84 ?_
  refine r_aload0 (pc := 87) C dX5_init_87 ?_
  refine r_iconst (pc := 88) C (v := 4) dX5_init_88 (by decide) ?_
  refine r_nac_int (pc := 89) C (t := 13) (N := 4) (by decide) rfl (by decide) (not_in (by decide)) (by decide) dX5_init_89 (fun q13 => ?_)
  have ha13 : (au (au (au (au (au (au (au (au (au (au (au (au (au ad 1 q1) 2 q2) 3 q3) 4 q4) 5 q5) 6 q6) 7 q7) 8 q8) 9 q9) 10 q10) 11 q11) 12 q12) 13 q13) 0 = a := (au_ne (by decide)).trans ha12
  refine qX5_54 (pc := 91) C hnm (fs2 := [.ref q1, .int 0, .ref q2, .int 0, .ref q3, .ref q4, .ref q6, .ref q7, .ref q8, .int 0, .ref q9, .ref q11, .int 0, .int 0, .ref q12, .ref q13, .null]) ha13 (by decide) rfl rfl dX5_init_91 ?_
  refine r_aload0 (pc := 94) C dX5_init_94 ?_
  refine r_iconst (pc := 95) C (v := 4) dX5_init_95 (by decide) ?_
  refine r_nac_int (pc := 96) C (t := 14) (N := 4) (by decide) rfl (by decide) (not_in (by decide)) (by decide) dX5_init_96 (fun q14 => ?_)
  have ha14 : (au (au (au (au (au (au (au (au (au (au (au (au (au (au ad 1 q1) 2 q2) 3 q3) 4 q4) 5 q5) 6 q6) 7 q7) 8 q8) 9 q9) 10 q10) 11 q11) 12 q12) 13 q13) 14 q14) 0 = a := (au_ne (by decide)).trans ha13
  refine qX5_57 (pc := 98) C hnm (fs2 := [.ref q1, .int 0, .ref q2, .int 0, .ref q3, .ref q4, .ref q6, .ref q7, .ref q8, .int 0, .ref q9, .ref q11, .int 0, .int 0, .ref q12, .ref q13, .ref q14]) ha14 (by decide) rfl rfl dX5_init_98 ?_
  refine r_aload0 (pc := 101) C dX5_init_101 ?_
  refine r_getfA (pc := 102) C inU5 (ci := 5) rfl 6 (by decide) fl_RX5_29 rfl (t := 0) (fs := [.ref q1, .int 0, .ref q2, .int 0, .ref q3, .ref q4, .ref q6, .ref q7, .ref q8, .int 0, .ref q9, .ref q11, .int 0, .int 0, .ref q12, .ref q13, .ref q14]) ha14 (by decide) rfl rfl dX5_init_102 ?_
  refine r_bipush (pc := 105) C (v := 50) dX5_init_105 (by decide) ?_
  refine V_st (st2 := [.int 50, .ref ((au (au (au (au (au (au (au (au (au (au (au (au (au (au ad 1 q1) 2 q2) 3 q3) 4 q4) 5 q5) 6 q6) 7 q7) 8 q8) 9 q9) 10 q10) 11 q11) 12 q12) 13 q13) 14 q14) 6)]) rfl ?_
  refine kX5_60 (pc := 107) C (c_J7_fill_53178 l D _ _ _ (t := 6) (N := 5) (h := fun _ => 0) (by decide) rfl (by decide) 50) dX5_init_107 (Nat.le_of_ble_eq_true rfl) (by decide) ?_
  rintro _ rfl
  refine r_aload0 (pc := 110) C dX5_init_110 ?_
  refine r_getfA (pc := 111) C inU5 (ci := 5) rfl 7 (by decide) fl_RX5_32 rfl (t := 0) (fs := [.ref q1, .int 0, .ref q2, .int 0, .ref q3, .ref q4, .ref q6, .ref q7, .ref q8, .int 0, .ref q9, .ref q11, .int 0, .int 0, .ref q12, .ref q13, .ref q14]) ha14 (by decide) rfl rfl dX5_init_111 ?_
  refine r_iconst (pc := 114) C (v := (-1)) dX5_init_114 (by decide) ?_
  refine V_st (st2 := [.int (-1), .ref ((au (au (au (au (au (au (au (au (au (au (au (au (au (au ad 1 q1) 2 q2) 3 q3) 4 q4) 5 q5) 6 q6) 7 q7) 8 q8) 9 q9) 10 q10) 11 q11) 12 q12) 13 q13) 14 q14) 7)]) rfl ?_
  refine kX5_60 (pc := 115) C (c_J7_fill_53178 l D _ _ _ (t := 7) (N := 5) (h := fun _ => 0) (by decide) rfl (by decide) (-1)) dX5_init_115 (Nat.le_of_ble_eq_true rfl) (by decide) ?_
  rintro _ rfl
  refine r_cg (ad2 := (au (au (au (au (au (au (au (au (au (au (au (au (au (au ad 1 q1) 2 q2) 3 q3) 4 q4) 5 q5) 6 q6) 7 q7) 8 q8) 9 q9) 10 q10) 11 q11) 12 q12) 13 q13) 14 q14)) (g := cO D (au (au (au (au (au (au (au (au (au (au (au (au (au (au ad 1 q1) 2 q2) 3 q3) 4 q4) 5 q5) 6 q6) 7 q7) 8 q8) 9 q9) 10 q10) 11 q11) 12 q12) 13 q13) 14 q14) s0) (fun _ _ => rfl) (fun k hk => ?_) ?_
  · rcases (show k = 0 ∨ k = 1 ∨ k = 2 ∨ k = 3 ∨ k = 4 ∨ k = 5 ∨ k = 6 ∨ k = 7 ∨ k = 8 ∨ k = 9 ∨ k = 10 ∨ k = 11 ∨ k = 12 ∨ k = 13 ∨ k = 14 by simpa using hk) with rfl | rfl | rfl | rfl | rfl | rfl | rfl | rfl | rfl | rfl | rfl | rfl | rfl | rfl | rfl <;> rfl
  exact r_vret C rfl dX5_init_118 (⟨(au (au (au (au (au (au (au (au (au (au (au (au (au (au ad 1 q1) 2 q2) 3 q3) 4 q4) 5 q5) 6 q6) 7 q7) 8 q8) 9 q9) 10 q10) 11 q11) 12 q12) 13 q13) 14 q14), rfl, ha14⟩) (by decide) (by decide)
set_option maxRecDepth 100000 in
set_option maxHeartbeats 4000000 in
theorem c_X6_init (l : Launch) (D : Gt) (ad : Nat → Nat) {a : Nat} (ha : ad 400 = a) : KV D l yX6_init (uws yX6_init cX6_init 2 none) (RM 2 31 1564) [.ref a] ([0, 1, 2, 3, 4, 5, 6, 7, 8, 9, 10, 11, 12, 13, 14] ++ [400], ad, va_up (cO D ad s0) 400 (.inr (6, [.int 0, .int 0, .null, .int 0, .null, .null, .null, .null, .null, .null, .null, .null, .null, .null, .null, .null, .null, .null, .int 0, .null, .null, .null, .null, .int 0, .int 0, .null, .int 0, .null, .null, .null, .null, .null, .null, .null, .null, .null, .null, .null, .int 0]))) (fun S1 => ∃ ad' : Nat → Nat, (∀ k, k ∈ [0, 1, 2, 3, 4, 5, 6, 7, 8, 9, 10, 11, 12, 13, 14] ++ [400] → ad' k = ad k) ∧ S1 = ([0, 1, 2, 3, 4, 5, 6, 7, 8, 9, 10, 11, 12, 13, 14, 400, 402, 404, 405, 406, 407, 408, 409, 410, 411, 412, 413, 414, 415, 416, 417, 419, 420, 421, 422, 425, 427, 428, 429, 430, 431, 432, 433, 434, 435, 436, 437], ad', cO D ad' s0)) (nX) 31 1564 := by
  refine KV_of (own := RX6) (L0 := [some (.ref a), none]) (by decide +kernel) rfl (catc rfl cat0) (Nat.le_of_ble_eq_true rfl) rfl ?_
  intro p e s m args below meth c A hnm C
  refine r_aload0 (pc := 0) C dX6_init_0 ?_
  refine kX6_1 (pc := 1) C ⟨by decide, Nat.le_of_ble_eq_true rfl⟩ dX6_init_1 ?_
  refine r_aload0 (pc := 4) C dX6_init_4 ?_
  refine r_bipush (pc := 5) C (v := 12) dX6_init_5 (by decide) ?_
  refine r_nac_int (pc := 7) C (t := 402) (N := 12) (by decide) rfl (by decide) (not_in (by decide)) (by decide) dX6_init_7 (fun q402 => ?_)
  have ha1 : (au ad 402 q402) 400 = a := (au_ne (by decide)).trans ha
  refine qX6_7 (pc := 9) C hnm (fs2 := [.int 0, .int 0, .ref q402, .int 0, .null, .null, .null, .null, .null, .null, .null, .null, .null, .null, .null, .null, .null, .null, .int 0, .null, .null, .null, .null, .int 0, .int 0, .null, .int 0, .null, .null, .null, .null, .null, .null, .null, .null, .null, .null, .null, .int 0]) ha1 (by decide) rfl rfl dX6_init_9 ?_
  refine r_aload0 (pc := 12) C dX6_init_12 ?_
  refine r_bipush (pc := 13) C (v := 40) dX6_init_13 (by decide) ?_
  refine r_nac_int (pc := 15) C (t := 404) (N := 40) (by decide) rfl (by decide) (not_in (by decide)) (by decide) dX6_init_15 (fun q404 => ?_)
  have ha2 : (au (au ad 402 q402) 404 q404) 400 = a := (au_ne (by decide)).trans ha1
  refine qX6_13 (pc := 17) C hnm (fs2 := [.int 0, .int 0, .ref q402, .int 0, .ref q404, .null, .null, .null, .null, .null, .null, .null, .null, .null, .null, .null, .null, .null, .int 0, .null, .null, .null, .null, .int 0, .int 0, .null, .int 0, .null, .null, .null, .null, .null, .null, .null, .null, .null, .null, .null, .int 0]) ha2 (by decide) rfl rfl dX6_init_17 ?_
  refine r_aload0 (pc := 20) C dX6_init_20 ?_
  refine r_bipush (pc := 21) C (v := 40) dX6_init_21 (by decide) ?_
  refine r_nac_int (pc := 23) C (t := 405) (N := 40) (by decide) rfl (by decide) (not_in (by decide)) (by decide) dX6_init_23 (fun q405 => ?_)
  have ha3 : (au (au (au ad 402 q402) 404 q404) 405 q405) 400 = a := (au_ne (by decide)).trans ha2
  refine qX6_16 (pc := 25) C hnm (fs2 := [.int 0, .int 0, .ref q402, .int 0, .ref q404, .ref q405, .null, .null, .null, .null, .null, .null, .null, .null, .null, .null, .null, .null, .int 0, .null, .null, .null, .null, .int 0, .int 0, .null, .int 0, .null, .null, .null, .null, .null, .null, .null, .null, .null, .null, .null, .int 0]) ha3 (by decide) rfl rfl dX6_init_25 ?_
  refine r_aload0 (pc := 28) C dX6_init_28 ?_
  refine r_bipush (pc := 29) C (v := 40) dX6_init_29 (by decide) ?_
  refine r_nac_int (pc := 31) C (t := 406) (N := 40) (by decide) rfl (by decide) (not_in (by decide)) (by decide) dX6_init_31 (fun q406 => ?_)
  have ha4 : (au (au (au (au ad 402 q402) 404 q404) 405 q405) 406 q406) 400 = a := (au_ne (by decide)).trans ha3
  refine qX6_19 (pc := 33) C hnm (fs2 := [.int 0, .int 0, .ref q402, .int 0, .ref q404, .ref q405, .ref q406, .null, .null, .null, .null, .null, .null, .null, .null, .null, .null, .null, .int 0, .null, .null, .null, .null, .int 0, .int 0, .null, .int 0, .null, .null, .null, .null, .null, .null, .null, .null, .null, .null, .null, .int 0]) ha4 (by decide) rfl rfl dX6_init_33 ?_
  refine r_aload0 (pc := 36) C dX6_init_36 ?_
  refine r_bipush (pc := 37) C (v := 40) dX6_init_37 (by decide) ?_
  refine r_nac_int (pc := 39) C (t := 407) (N := 40) (by decide) rfl (by decide) (not_in (by decide)) (by decide) dX6_init_39 (fun q407 => ?_)
  have ha5 : (au (au (au (au (au ad 402 q402) 404 q404) 405 q405) 406 q406) 407 q407) 400 = a := (au_ne (by decide)).trans ha4
  refine qX6_22 (pc := 41) C hnm (fs2 := [.int 0, .int 0, .ref q402, .int 0, .ref q404, .ref q405, .ref q406, .ref q407, .null, .null, .null, .null, .null, .null, .null, .null, .null, .null, .int 0, .null, .null, .null, .null, .int 0, .int 0, .null, .int 0, .null, .null, .null, .null, .null, .null, .null, .null, .null, .null, .null, .int 0]) ha5 (by decide) rfl rfl dX6_init_41 ?_
  refine r_aload0 (pc := 44) C dX6_init_44 ?_
  refine r_bipush (pc := 45) C (v := 40) dX6_init_45 (by decide) ?_
  refine r_nac_int (pc := 47) C (t := 408) (N := 40) (by decide) rfl (by decide) (not_in (by decide)) (by decide) dX6_init_47 (fun q408 => ?_)
  have ha6 : (au (au (au (au (au (au ad 402 q402) 404 q404) 405 q405) 406 q406) 407 q407) 408 q408) 400 = a := (au_ne (by decide)).trans ha5
  refine qX6_25 (pc := 49) C hnm (fs2 := [.int 0, .int 0, .ref q402, .int 0, .ref q404, .ref q405, .ref q406, .ref q407, .ref q408, .null, .null, .null, .null, .null, .null, .null, .null, .null, .int 0, .null, .null, .null, .null, .int 0, .int 0, .null, .int 0, .null, .null, .null, .null, .null, .null, .null, .null, .null, .null, .null, .int 0]) ha6 (by decide) rfl rfl dX6_init_49 ?_
  refine r_aload0 (pc := 52) C dX6_init_52 ?_
  refine r_bipush (pc := 53) C (v := 40) dX6_init_53 (by decide) ?_
  refine r_nac_int (pc := 55) C (t := 409) (N := 40) (by decide) rfl (by decide) (not_in (by decide)) (by decide) dX6_init_55 (fun q409 => ?_)
  have ha7 : (au (au (au (au (au (au (au ad 402 q402) 404 q404) 405 q405) 406 q406) 407 q407) 408 q408) 409 q409) 400 = a := (au_ne (by decide)).trans ha6
  refine qX6_28 (pc := 57) C hnm (fs2 := [.int 0, .int 0, .ref q402, .int 0, .ref q404, .ref q405, .ref q406, .ref q407, .ref q408, .ref q409, .null, .null, .null, .null, .null, .null, .null, .null, .int 0, .null, .null, .null, .null, .int 0, .int 0, .null, .int 0, .null, .null, .null, .null, .null, .null, .null, .null, .null, .null, .null, .int 0]) ha7 (by decide) rfl rfl dX6_init_57 ?_
  refine r_aload0 (pc := 60) C dX6_init_60 ?_
  refine r_bipush (pc := 61) C (v := 40) dX6_init_61 (by decide) ?_
  refine r_nac_int (pc := 63) C (t := 410) (N := 40) (by decide) rfl (by decide) (not_in (by decide)) (by decide) dX6_init_63 (fun q410 => ?_)
  have ha8 : (au (au (au (au (au (au (au (au ad 402 q402) 404 q404) 405 q405) 406 q406) 407 q407) 408 q408) 409 q409) 410 q410) 400 = a := (au_ne (by decide)).trans ha7
  refine qX6_31 (pc := 65) C hnm (fs2 := [.int 0, .int 0, .ref q402, .int 0, .ref q404, .ref q405, .ref q406, .ref q407, .ref q408, .ref q409, .ref q410, .null, .null, .null, .null, .null, .null, .null, .int 0, .null, .null, .null, .null, .int 0, .int 0, .null, .int 0, .null, .null, .null, .null, .null, .null, .null, .null, .null, .null, .null, .int 0]) ha8 (by decide) rfl rfl dX6_init_65 ?_
  refine r_aload0 (pc := 68) C dX6_init_68 ?_
  refine r_bipush (pc := 69) C (v := 40) dX6_init_69 (by decide) ?_
  refine r_nac_int (pc := 71) C (t := 411) (N := 40) (by decide) rfl (by decide) (not_in (by decide)) (by decide) dX6_init_71 (fun q411 => ?_)
  have ha9 : (au (au (au (au (au (au (au (au (au ad 402 q402) 404 q404) 405 q405) 406 q406) 407 q407) 408 q408) 409 q409) 410 q410) 411 q411) 400 = a := (au_ne (by decide)).trans ha8
  refine qX6_34 (pc := 73) C hnm (fs2 := [.int 0, .int 0, .ref q402, .int 0, .ref q404, .ref q405, .ref q406, .ref q407, .ref q408, .ref q409, .ref q410, .ref q411, .null, .null, .null, .null, .null, .null, .int 0, .null, .null, .null, .null, .int 0, .int 0, .null, .int 0, .null, .null, .null, .null, .null, .null, .null, .null, .null, .null, .null, .int 0]) ha9 (by decide) rfl rfl dX6_init_73 ?_
  refine r_aload0 (pc := 76) C dX6_init_76 ?_
  refine r_bipush (pc := 77) C (v := 40) dX6_init_77 (by decide) ?_
  refine r_nac_int (pc := 79) C (t := 412) (N := 40) (by decide) rfl (by decide) (not_in (by decide)) (by decide) dX6_init_79 (fun q412 => ?_)
  have ha10 : (au (au (au (au (au (au (au (au (au (au ad 402 q402) 404 q404) 405 q405) 406 q406) 407 q407) 408 q408) 409 q409) 410 q410) 411 q411) 412 q412) 400 = a := (au_ne (by decide)).trans ha9
  refine qX6_37 (pc := 81) C hnm (fs2 := [.int 0, .int 0, .ref q402, .int 0, .ref q404, .ref q405, .ref q406, .ref q407, .ref q408, .ref q409, .ref q410, .ref q411, .ref q412, .null, .null, .null, .null, .null, .int 0, .null, .null, .null, .null, .int 0, .int 0, .null, .int 0, .null, .null, .null, .null, .null, .null, .null, .null, .null, .null, .null, .int 0]) ha10 (by decide) rfl rfl dX6_init_81 ?_
  refine r_aload0 (pc := 84) C dX6_init_84 ?_
  refine r_bipush (pc := 85) C (v := 40) dX6_init_85 (by decide) ?_
  refine r_nac_int (pc := 87) C (t := 413) (N := 40) (by decide) rfl (by decide) (not_in (by decide)) (by decide) dX6_init_87 (fun q413 => ?_)
  have ha11 : (au (au (au (au (au (au (au (au (au (au (au ad 402 q402) 404 q404) 405 q405) 406 q406) 407 q407) 408 q408) 409 q409) 410 q410) 411 q411) 412 q412) 413 q413) 400 = a := (au_ne (by decide)).trans ha10
  refine qX6_40 (pc := 89) C hnm (fs2 := [.int 0, .int 0, .ref q402, .int 0, .ref q404, .ref q405, .ref q406, .ref q407, .ref q408, .ref q409, .ref q410, .ref q411, .ref q412, .ref q413, .null, .null, .null, .null, .int 0, .null, .null, .null, .null, .int 0, .int 0, .null, .int 0, .null, .null, .null, .null, .null, .null, .null, .null, .null, .null, .null, .int 0]) ha11 (by decide) rfl rfl dX6_init_89 ?_
  refine r_aload0 (pc := 92) C dX6_init_92 ?_
  refine r_bipush (pc := 93) C (v := 120) dX6_init_93 (by decide) ?_
  refine r_nac_int (pc := 95) C (t := 414) (N := 120) (by decide) rfl (by decide) (not_in (by decide)) (by decide) dX6_init_95 (fun q414 => ?_)
  have ha12 : (au (au (au (au (au (au (au (au (au (au (au (au ad 402 q402) 404 q404) 405 q405) 406 q406) 407 q407) 408 q408) 409 q409) 410 q410) 411 q411) 412 q412) 413 q413) 414 q414) 400 = a := (au_ne (by decide)).trans ha11
  refine qX6_43 (pc := 97) C hnm (fs2 := [.int 0, .int 0, .ref q402, .int 0, .ref q404, .ref q405, .ref q406, .ref q407, .ref q408, .ref q409, .ref q410, .ref q411, .ref q412, .ref q413, .ref q414, .null, .null, .null, .int 0, .null, .null, .null, .null, .int 0, .int 0, .null, .int 0, .null, .null, .null, .null, .null, .null, .null, .null, .null, .null, .null, .int 0]) ha12 (by decide) rfl rfl dX6_init_97 ?_
  refine r_aload0 (pc := 100) C dX6_init_100 ?_
  refine r_bipush (pc := 101) C (v := 40) dX6_init_101 (by decide) ?_
  refine r_nac_int (pc := 103) C (t := 415) (N := 40) (by decide) rfl (by decide) (not_in (by decide)) (by decide) dX6_init_103 (fun q415 => ?_)
  have ha13 : (au (au (au (au (au (au (au (au (au (au (au (au (au ad 402 q402) 404 q404) 405 q405) 406 q406) 407 q407) 408 q408) 409 q409) 410 q410) 411 q411) 412 q412) 413 q413) 414 q414) 415 q415) 400 = a := (au_ne (by decide)).trans ha12
  refine qX6_46 (pc := 105) C hnm (fs2 := [.int 0, .int 0, .ref q402, .int 0, .ref q404, .ref q405, .ref q406, .ref q407, .ref q408, .ref q409, .ref q410, .ref q411, .ref q412, .ref q413, .ref q414, .ref q415, .null, .null, .int 0, .null, .null, .null, .null, .int 0, .int 0, .null, .int 0, .null, .null, .null, .null, .null, .null, .null, .null, .null, .null, .null, .int 0]) ha13 (by decide) rfl rfl dX6_init_105 ?_
  refine r_aload0 (pc := 108) C dX6_init_108 ?_
  refine r_iconst (pc := 109) C (v := 4) dX6_init_109 (by decide) ?_
  refine r_nac_int (pc := 110) C (t := 416) (N := 4) (by decide) rfl (by decide) (not_in (by decide)) (by decide) dX6_init_110 (fun q416 => ?_)
  have ha14 : (au (au (au (au (au (au (au (au (au (au (au (au (au (au ad 402 q402) 404 q404) 405 q405) 406 q406) 407 q407) 408 q408) 409 q409) 410 q410) 411 q411) 412 q412) 413 q413) 414 q414) 415 q415) 416 q416) 400 = a := (au_ne (by decide)).trans ha13
  refine qX6_49 (pc := 112) C hnm (fs2 := [.int 0, .int 0, .ref q402, .int 0, .ref q404, .ref q405, .ref q406, .ref q407, .ref q408, .ref q409, .ref q410, .ref q411, .ref q412, .ref q413, .ref q414, .ref q415, .ref q416, .null, .int 0, .null, .null, .null, .null, .int 0, .int 0, .null, .int 0, .null, .null, .null, .null, .null, .null, .null, .null, .null, .null, .null, .int 0]) ha14 (by decide) rfl rfl dX6_init_112 ?_
  refine r_aload0 (pc := 115) C dX6_init_115 ?_
  refine r_bipush (pc := 116) C (v := 76) dX6_init_116 (by decide) ?_
  refine r_nac_int (pc := 118) C (t := 417) (N := 76) (by decide) rfl (by decide) (not_in (by decide)) (by decide) dX6_init_118 (fun q417 => ?_)
  have ha15 : (au (au (au (au (au (au (au (au (au (au (au (au (au (au (au ad 402 q402) 404 q404) 405 q405) 406 q406) 407 q407) 408 q408) 409 q409) 410 q410) 411 q411) 412 q412) 413 q413) 414 q414) 415 q415) 416 q416) 417 q417) 400 = a := (au_ne (by decide)).trans ha14
  refine qX6_52 (pc := 120) C hnm (fs2 := [.int 0, .int 0, .ref q402, .int 0, .ref q404, .ref q405, .ref q406, .ref q407, .ref q408, .ref q409, .ref q410, .ref q411, .ref q412, .ref q413, .ref q414, .ref q415, .ref q416, .ref q417, .int 0, .null, .null, .null, .null, .int 0, .int 0, .null, .int 0, .null, .null, .null, .null, .null, .null, .null, .null, .null, .null, .null, .int 0]) ha15 (by decide) rfl rfl dX6_init_120 ?_
  refine r_aload0 (pc := 123) C dX6_init_123 ?_
  refine r_iconst (pc := 124) C (v := 5) dX6_init_124 (by decide) ?_
  refine r_nac_int (pc := 125) C (t := 419) (N := 5) (by decide) rfl (by decide) (not_in (by decide)) (by decide) dX6_init_125 (fun q419 => ?_)
  have ha16 : (au (au (au (au (au (au (au (au (au (au (au (au (au (au (au (au ad 402 q402) 404 q404) 405 q405) 406 q406) 407 q407) 408 q408) 409 q409) 410 q410) 411 q411) 412 q412) 413 q413) 414 q414) 415 q415) 416 q416) 417 q417) 419 q419) 400 = a := (au_ne (by decide)).trans ha15
  refine qX6_55 (pc := 127) C hnm (fs2 := [.int 0, .int 0, .ref q402, .int 0, .ref q404, .ref q405, .ref q406, .ref q407, .ref q408, .ref q409, .ref q410, .ref q411, .ref q412, .ref q413, .ref q414, .ref q415, .ref q416, .ref q417, .int 0, .ref q419, .null, .null, .null, .int 0, .int 0, .null, .int 0, .null, .null, .null, .null, .null, .null, .null, .null, .null, .null, .null, .int 0]) ha16 (by decide) rfl rfl dX6_init_127 ?_
  refine r_aload0 (pc := 130) C dX6_init_130 ?_
  refine r_iconst (pc := 131) C (v := 5) dX6_init_131 (by decide) ?_
  refine r_nac_boolean (pc := 132) C (t := 420) (N := 5) (by decide) rfl (by decide) (not_in (by decide)) (by decide) dX6_init_132 (fun q420 => ?_)
  have ha17 : (au (au (au (au (au (au (au (au (au (au (au (au (au (au (au (au (au ad 402 q402) 404 q404) 405 q405) 406 q406) 407 q407) 408 q408) 409 q409) 410 q410) 411 q411) 412 q412) 413 q413) 414 q414) 415 q415) 416 q416) 417 q417) 419 q419) 420 q420) 400 = a := (au_ne (by decide)).trans ha16
  refine qX6_58 (pc := 134) C hnm (fs2 := [.int 0, .int 0, .ref q402, .int 0, .ref q404, .ref q405, .ref q406, .ref q407, .ref q408, .ref q409, .ref q410, .ref q411, .ref q412, .ref q413, .ref q414, .ref q415, .ref q416, .ref q417, .int 0, .ref q419, .ref q420, .null, .null, .int 0, .int 0, .null, .int 0, .null, .null, .null, .null, .null, .null, .null, .null, .null, .null, .null, .int 0]) ha17 (by decide) rfl rfl dX6_init_134 ?_
  refine r_aload0 (pc := 137) C dX6_init_137 ?_
  refine r_iconst (pc := 138) C (v := 5) dX6_init_138 (by decide) ?_
  refine r_nac_int (pc := 139) C (t := 421) (N := 5) (by decide) rfl (by decide) (not_in (by decide)) (by decide) dX6_init_139 (fun q421 => ?_)
  have ha18 : (au (au (au (au (au (au (au (au (au (au (au (au (au (au (au (au (au (au ad 402 q402) 404 q404) 405 q405) 406 q406) 407 q407) 408 q408) 409 q409) 410 q410) 411 q411) 412 q412) 413 q413) 414 q414) 415 q415) 416 q416) 417 q417) 419 q419) 420 q420) 421 q421) 400 = a := (au_ne (by decide)).trans ha17
  refine qX6_62 (pc := 141) C hnm (fs2 := [.int 0, .int 0, .ref q402, .int 0, .ref q404, .ref q405, .ref q406, .ref q407, .ref q408, .ref q409, .ref q410, .ref q411, .ref q412, .ref q413, .ref q414, .ref q415, .ref q416, .ref q417, .int 0, .ref q419, .ref q420, .ref q421, .null, .int 0, .int 0, .null, .int 0, .null, .null, .null, .null, .null, .null, .null, .null, .null, .null, .null, .int 0]) ha18 (by decide) rfl rfl dX6_init_141 ?_
  refine r_aload0 (pc := 144) C dX6_init_144 ?_
  refine r_iconst (pc := 145) C (v := 5) dX6_init_145 (by decide) ?_
  refine r_nac_int (pc := 146) C (t := 422) (N := 5) (by decide) rfl (by decide) (not_in (by decide)) (by decide) dX6_init_146 (fun q422 => ?_)
  have ha19 : (au (au (au (au (au (au (au (au (au (au (au (au (au (au (au (au (au (au (au ad 402 q402) 404 q404) 405 q405) 406 q406) 407 q407) 408 q408) 409 q409) 410 q410) 411 q411) 412 q412) 413 q413) 414 q414) 415 q415) 416 q416) 417 q417) 419 q419) 420 q420) 421 q421) 422 q422) 400 = a := (au_ne (by decide)).trans ha18
  refine qX6_65 (pc := 148) C hnm (fs2 := [.int 0, .int 0, .ref q402, .int 0, .ref q404, .ref q405, .ref q406, .ref q407, .ref q408, .ref q409, .ref q410, .ref q411, .ref q412, .ref q413, .ref q414, .ref q415, .ref q416, .ref q417, .int 0, .ref q419, .ref q420, .ref q421, .ref q422, .int 0, .int 0, .null, .int 0, .null, .null, .null, .null, .null, .null, .null, .null, .null, .null, .null, .int 0]) ha19 (by decide) rfl rfl dX6_init_148 ?_
  refine r_aload0 (pc := 151) C dX6_init_151 ?_
  refine r_iconst (pc := 152) C (v := (-1)) dX6_init_152 (by decide) ?_
  refine qX6_68 (pc := 153) C hnm (fs2 := [.int 0, .int 0, .ref q402, .int 0, .ref q404, .ref q405, .ref q406, .ref q407, .ref q408, .ref q409, .ref q410, .ref q411, .ref q412, .ref q413, .ref q414, .ref q415, .ref q416, .ref q417, .int 0, .ref q419, .ref q420, .ref q421, .ref q422, .int (-1), .int 0, .null, .int 0, .null, .null, .null, .null, .null, .null, .null, .null, .null, .null, .null, .int 0]) ha19 (by decide) rfl rfl dX6_init_153 ?_
  refine r_aload0 (pc := 156) C dX6_init_156 ?_
  refine r_iconst (pc := 157) C (v := 5) dX6_init_157 (by decide) ?_
  refine r_nac_int (pc := 158) C (t := 425) (N := 5) (by decide) rfl (by decide) (not_in (by decide)) (by decide) dX6_init_158 (fun q425 => ?_)
  have ha20 : (au (au (au (au (au (au (au (au (au (au (au (au (au (au (au (au (au (au (au (au ad 402 q402) 404 q404) 405 q405) 406 q406) 407 q407) 408 q408) 409 q409) 410 q410) 411 q411) 412 q412) 413 q413) 414 q414) 415 q415) 416 q416) 417 q417) 419 q419) 420 q420) 421 q421) 422 q422) 425 q425) 400 = a := (au_ne (by decide)).trans ha19
  refine qX6_72 (pc := 160) C hnm (fs2 := [.int 0, .int 0, .ref q402, .int 0, .ref q404, .ref q405, .ref q406, .ref q407, .ref q408, .ref q409, .ref q410, .ref q411, .ref q412, .ref q413, .ref q414, .ref q415, .ref q416, .ref q417, .int 0, .ref q419, .ref q420, .ref q421, .ref q422, .int (-1), .int 0, .ref q425, .int 0, .null, .null, .null, .null, .null, .null, .null, .null, .null, .null, .null, .int 0]) ha20 (by decide) rfl rfl dX6_init_160 ?_
  refine r_aload0 (pc := 163) C dX6_init_163 ?_
  refine r_bipush (pc := 164) C (v := 80) dX6_init_164 (by decide) ?_
  refine r_nac_int (pc := 166) C (t := 427) (N := 80) (by decide) rfl (by decide) (not_in (by decide)) (by decide) dX6_init_166 (fun q427 => ?_)
  have ha21 : (au (au (au (au (au (au (au (au (au (au (au (au (au (au (au (au (au (au (au (au (au ad 402 q402) 404 q404) 405 q405) 406 q406) 407 q407) 408 q408) 409 q409) 410 q410) 411 q411) 412 q412) 413 q413) 414 q414) 415 q415) 416 q416) 417 q417) 419 q419) 420 q420) 421 q421) 422 q422) 425 q425) 427 q427) 400 = a := (au_ne (by decide)).trans ha20
  refine qX6_75 (pc := 168) C hnm (fs2 := [.int 0, .int 0, .ref q402, .int 0, .ref q404, .ref q405, .ref q406, .ref q407, .ref q408, .ref q409, .ref q410, .ref q411, .ref q412, .ref q413, .ref q414, .ref q415, .ref q416, .ref q417, .int 0, .ref q419, .ref q420, .ref q421, .ref q422, .int (-1), .int 0, .ref q425, .int 0, .ref q427, .null, .null, .null, .null, .null, .null, .null, .null, .null, .null, .int 0]) ha21 (by decide) rfl rfl dX6_init_168 ?_
  refine r_aload0 (pc := 171) C dX6_init_171 ?_
  refine r_bipush (pc := 172) C (v := 80) dX6_init_172 (by decide) ?_
  refine r_nac_int (pc := 174) C (t := 428) (N := 80) (by decide) rfl (by decide) (not_in (by decide)) (by decide) dX6_init_174 (fun q428 => ?_)
  have ha22 : (au (au (au (au (au (au (au (au (au (au (au (au (au (au (au (au (au (au (au (au (au (au ad 402 q402) 404 q404) 405 q405) 406 q406) 407 q407) 408 q408) 409 q409) 410 q410) 411 q411) 412 q412) 413 q413) 414 q414) 415 q415) 416 q416) 417 q417) 419 q419) 420 q420) 421 q421) 422 q422) 425 q425) 427 q427) 428 q428) 400 = a := (au_ne (by decide)).trans ha21
  refine qX6_78 (pc := 176) C hnm (fs2 := [.int 0, .int 0, .ref q402, .int 0, .ref q404, .ref q405, .ref q406, .ref q407, .ref q408, .ref q409, .ref q410, .ref q411, .ref q412, .ref q413, .ref q414, .ref q415, .ref q416, .ref q417, .int 0, .ref q419, .ref q420, .ref q421, .ref q422, .int (-1), .int 0, .ref q425, .int 0, .ref q427, .ref q428, .null, .null, .null, .null, .null, .null, .null, .null, .null, .int 0]) ha22 (by decide) rfl rfl dX6_init_176 ?_
  refine r_aload0 (pc := 179) C dX6_init_179 ?_
  refine r_bipush (pc := 180) C (v := 80) dX6_init_180 (by decide) ?_
  refine r_nac_int (pc := 182) C (t := 429) (N := 80) (by decide) rfl (by decide) (not_in (by decide)) (by decide) dX6_init_182 (fun q429 => ?_)
  have ha23 : (au (au (au (au (au (au (au (au (au (au (au (au (au (au (au (au (au (au (au (au (au (au (au ad 402 q402) 404 q404) 405 q405) 406 q406) 407 q407) 408 q408) 409 q409) 410 q410) 411 q411) 412 q412) 413 q413) 414 q414) 415 q415) 416 q416) 417 q417) 419 q419) 420 q420) 421 q421) 422 q422) 425 q425) 427 q427) 428 q428) 429 q429) 400 = a := (au_ne (by decide)).trans ha22
  refine qX6_81 (pc := 184) C hnm (fs2 := [.int 0, .int 0, .ref q402, .int 0, .ref q404, .ref q405, .ref q406, .ref q407, .ref q408, .ref q409, .ref q410, .ref q411, .ref q412, .ref q413, .ref q414, .ref q415, .ref q416, .ref q417, .int 0, .ref q419, .ref q420, .ref q421, .ref q422, .int (-1), .int 0, .ref q425, .int 0, .ref q427, .ref q428, .ref q429, .null, .null, .null, .null, .null, .null, .null, .null, .int 0]) ha23 (by decide) rfl rfl dX6_init_184 ?_
  refine r_aload0 (pc := 187) C dX6_init_187 ?_
  refine r_bipush (pc := 188) C (v := 80) dX6_init_188 (by decide) ?_
  refine r_nac_int (pc := 190) C (t := 430) (N := 80) (by decide) rfl (by decide) (not_in (by decide)) (by decide) dX6_init_190 (fun q430 => ?_)
  have ha24 : (au (au (au (au (au (au (au (au (au (au (au (au (au (au (au (au (au (au (au (au (au (au (au (au ad 402 q402) 404 q404) 405 q405) 406 q406) 407 q407) 408 q408) 409 q409) 410 q410) 411 q411) 412 q412) 413 q413) 414 q414) 415 q415) 416 q416) 417 q417) 419 q419) 420 q420) 421 q421) 422 q422) 425 q425) 427 q427) 428 q428) 429 q429) 430 q430) 400 = a := (au_ne (by decide)).trans ha23
  refine qX6_84 (pc := 192) C hnm (fs2 := [.int 0, .int 0, .ref q402, .int 0, .ref q404, .ref q405, .ref q406, .ref q407, .ref q408, .ref q409, .ref q410, .ref q411, .ref q412, .ref q413, .ref q414, .ref q415, .ref q416, .ref q417, .int 0, .ref q419, .ref q420, .ref q421, .ref q422, .int (-1), .int 0, .ref q425, .int 0, .ref q427, .ref q428, .ref q429, .ref q430, .null, .null, .null, .null, .null, .null, .null, .int 0]) ha24 (by decide) rfl rfl dX6_init_192 ?_
  refine r_aload0 (pc := 195) C dX6_init_195 ?_
  refine r_bipush (pc := 196) C (v := 80) dX6_init_196 (by decide) ?_
  refine r_nac_int (pc := 198) C (t := 431) (N := 80) (by decide) rfl (by decide) (not_in (by decide)) (by decide) dX6_init_198 (fun q431 => ?_)
  have ha25 : (au (au (au (au (au (au (au (au (au (au (au (au (au (au (au (au (au (au (au (au (au (au (au (au (au ad 402 q402) 404 q404) 405 q405) 406 q406) 407 q407) 408 q408) 409 q409) 410 q410) 411 q411) 412 q412) 413 q413) 414 q414) 415 q415) 416 q416) 417 q417) 419 q419) 420 q420) 421 q421) 422 q422) 425 q425) 427 q427) 428 q428) 429 q429) 430 q430) 431 q431) 400 = a := (au_ne (by decide)).trans ha24
  refine qX6_87 (pc := 200) C hnm (fs2 := [.int 0, .int 0, .ref q402, .int 0, .ref q404, .ref q405, .ref q406, .ref q407, .ref q408, .ref q409, .ref q410, .ref q411, .ref q412, .ref q413, .ref q414, .ref q415, .ref q416, .ref q417, .int 0, .ref q419, .ref q420, .ref q421, .ref q422, .int (-1), .int 0, .ref q425, .int 0, .ref q427, .ref q428, .ref q429, .ref q430, .ref q431, .null, .null, .null, .null, .null, .null, .int 0]) ha25 (by decide) rfl rfl dX6_init_200 ?_
  refine r_aload0 (pc := 203) C dX6_init_203 ?_
  refine r_bipush (pc := 204) C (v := 80) dX6_init_204 (by decide) ?_
  refine r_nac_int (pc := 206) C (t := 432) (N := 80) (by decide) rfl (by decide) (not_in (by decide)) (by decide) dX6_init_206 (fun q432 => ?_)
  have ha26 : (au (au (au (au (au (au (au (au (au (au (au (au (au (au (au (au (au (au (au (au (au (au (au (au (au (au ad 402 q402) 404 q404) 405 q405) 406 q406) 407 q407) 408 q408) 409 q409) 410 q410) 411 q411) 412 q412) 413 q413) 414 q414) 415 q415) 416 q416) 417 q417) 419 q419) 420 q420) 421 q421) 422 q422) 425 q425) 427 q427) 428 q428) 429 q429) 430 q430) 431 q431) 432 q432) 400 = a := (au_ne (by decide)).trans ha25
  refine qX6_90 (pc := 208) C hnm (fs2 := [.int 0, .int 0, .ref q402, .int 0, .ref q404, .ref q405, .ref q406, .ref q407, .ref q408, .ref q409, .ref q410, .ref q411, .ref q412, .ref q413, .ref q414, .ref q415, .ref q416, .ref q417, .int 0, .ref q419, .ref q420, .ref q421, .ref q422, .int (-1), .int 0, .ref q425, .int 0, .ref q427, .ref q428, .ref q429, .ref q430, .ref q431, .ref q432, .null, .null, .null, .null, .null, .int 0]) ha26 (by decide) rfl rfl dX6_init_208 ?_
  refine r_aload0 (pc := 211) C dX6_init_211 ?_
  refine r_bipush (pc := 212) C (v := 80) dX6_init_212 (by decide) ?_
  refine r_nac_int (pc := 214) C (t := 433) (N := 80) (by decide) rfl (by decide) (not_in (by decide)) (by decide) dX6_init_214 (fun q433 => ?_)
  have ha27 : (au (au (au (au (au (au (au (au (au (au (au (au (au (au (au (au (au (au (au (au (au (au (au (au (au (au (au ad 402 q402) 404 q404) 405 q405) 406 q406) 407 q407) 408 q408) 409 q409) 410 q410) 411 q411) 412 q412) 413 q413) 414 q414) 415 q415) 416 q416) 417 q417) 419 q419) 420 q420) 421 q421) 422 q422) 425 q425) 427 q427) 428 q428) 429 q429) 430 q430) 431 q431) 432 q432) 433 q433) 400 = a := (au_ne (by decide)).trans ha26
  refine qX6_93 (pc := 216) C hnm (fs2 := [.int 0, .int 0, .ref q402, .int 0, .ref q404, .ref q405, .ref q406, .ref q407, .ref q408, .ref q409, .ref q410, .ref q411, .ref q412, .ref q413, .ref q414, .ref q415, .ref q416, .ref q417, .int 0, .ref q419, .ref q420, .ref q421, .ref q422, .int (-1), .int 0, .ref q425, .int 0, .ref q427, .ref q428, .ref q429, .ref q430, .ref q431, .ref q432, .ref q433, .null, .null, .null, .null, .int 0]) ha27 (by decide) rfl rfl dX6_init_216 ?_
  refine r_aload0 (pc := 219) C dX6_init_219 ?_
  refine r_sipush (pc := 220) C (v := 240) dX6_init_220 (by decide) ?_
  refine r_nac_int (pc := 223) C (t := 434) (N := 240) (by decide) rfl (by decide) (not_in (by decide)) (by decide) dX6_init_223 (fun q434 => ?_)
  have ha28 : (au (au (au (au (au (au (au (au (au (au (au (au (au (au (au (au (au (au (au (au (au (au (au (au (au (au (au (au ad 402 q402) 404 q404) 405 q405) 406 q406) 407 q407) 408 q408) 409 q409) 410 q410) 411 q411) 412 q412) 413 q413) 414 q414) 415 q415) 416 q416) 417 q417) 419 q419) 420 q420) 421 q421) 422 q422) 425 q425) 427 q427) 428 q428) 429 q429) 430 q430) 431 q431) 432 q432) 433 q433) 434 q434) 400 = a := (au_ne (by decide)).trans ha27
  refine qX6_96 (pc := 225) C hnm (fs2 := [.int 0, .int 0, .ref q402, .int 0, .ref q404, .ref q405, .ref q406, .ref q407, .ref q408, .ref q409, .ref q410, .ref q411, .ref q412, .ref q413, .ref q414, .ref q415, .ref q416, .ref q417, .int 0, .ref q419, .ref q420, .ref q421, .ref q422, .int (-1), .int 0, .ref q425, .int 0, .ref q427, .ref q428, .ref q429, .ref q430, .ref q431, .ref q432, .ref q433, .ref q434, .null, .null, .null, .int 0]) ha28 (by decide) rfl rfl dX6_init_225 ?_
  refine r_aload0 (pc := 228) C dX6_init_228 ?_
  refine r_bipush (pc := 229) C (v := 80) dX6_init_229 (by decide) ?_
  refine r_nac_int (pc := 231) C (t := 435) (N := 80) (by decide) rfl (by decide) (not_in (by decide)) (by decide) dX6_init_231 (fun q435 => ?_)
  have ha29 : (au (au (au (au (au (au (au (au (au (au (au (au (au (au (au (au (au (au (au (au (au (au (au (au (au (au (au (au (au ad 402 q402) 404 q404) 405 q405) 406 q406) 407 q407) 408 q408) 409 q409) 410 q410) 411 q411) 412 q412) 413 q413) 414 q414) 415 q415) 416 q416) 417 q417) 419 q419) 420 q420) 421 q421) 422 q422) 425 q425) 427 q427) 428 q428) 429 q429) 430 q430) 431 q431) 432 q432) 433 q433) 434 q434) 435 q435) 400 = a := (au_ne (by decide)).trans ha28
  refine qX6_99 (pc := 233) C hnm (fs2 := [.int 0, .int 0, .ref q402, .int 0, .ref q404, .ref q405, .ref q406, .ref q407, .ref q408, .ref q409, .ref q410, .ref q411, .ref q412, .ref q413, .ref q414, .ref q415, .ref q416, .ref q417, .int 0, .ref q419, .ref q420, .ref q421, .ref q422, .int (-1), .int 0, .ref q425, .int 0, .ref q427, .ref q428, .ref q429, .ref q430, .ref q431, .ref q432, .ref q433, .ref q434, .ref q435, .null, .null, .int 0]) ha29 (by decide) rfl rfl dX6_init_233 ?_
  refine r_aload0 (pc := 236) C dX6_init_236 ?_
  refine r_iconst (pc := 237) C (v := 3) dX6_init_237 (by decide) ?_
  refine r_nac_int (pc := 238) C (t := 436) (N := 3) (by decide) rfl (by decide) (not_in (by decide)) (by decide) dX6_init_238 (fun q436 => ?_)
  have ha30 : (au (au (au (au (au (au (au (au (au (au (au (au (au (au (au (au (au (au (au (au (au (au (au (au (au (au (au (au (au (au ad 402 q402) 404 q404) 405 q405) 406 q406) 407 q407) 408 q408) 409 q409) 410 q410) 411 q411) 412 q412) 413 q413) 414 q414) 415 q415) 416 q416) 417 q417) 419 q419) 420 q420) 421 q421) 422 q422) 425 q425) 427 q427) 428 q428) 429 q429) 430 q430) 431 q431) 432 q432) 433 q433) 434 q434) 435 q435) 436 q436) 400 = a := (au_ne (by decide)).trans ha29
  refine qX6_102 (pc := 240) C hnm (fs2 := [.int 0, .int 0, .ref q402, .int 0, .ref q404, .ref q405, .ref q406, .ref q407, .ref q408, .ref q409, .ref q410, .ref q411, .ref q412, .ref q413, .ref q414, .ref q415, .ref q416, .ref q417, .int 0, .ref q419, .ref q420, .ref q421, .ref q422, .int (-1), .int 0, .ref q425, .int 0, .ref q427, .ref q428, .ref q429, .ref q430, .ref q431, .ref q432, .ref q433, .ref q434, .ref q435, .ref q436, .null, .int 0]) ha30 (by decide) rfl rfl dX6_init_240 ?_
  refine r_aload0 (pc := 243) C dX6_init_243 ?_
  refine r_iconst (pc := 244) C (v := 4) dX6_init_244 (by decide) ?_
  refine r_nac_int (pc := 245) C (t := 437) (N := 4) (by decide) rfl (by decide) (not_in (by decide)) (by decide) dX6_init_245 (fun q437 => ?_)
  have ha31 : (au (au (au (au (au (au (au (au (au (au (au (au (au (au (au (au (au (au (au (au (au (au (au (au (au (au (au (au (au (au (au ad 402 q402) 404 q404) 405 q405) 406 q406) 407 q407) 408 q408) 409 q409) 410 q410) 411 q411) 412 q412) 413 q413) 414 q414) 415 q415) 416 q416) 417 q417) 419 q419) 420 q420) 421 q421) 422 q422) 425 q425) 427 q427) 428 q428) 429 q429) 430 q430) 431 q431) 432 q432) 433 q433) 434 q434) 435 q435) 436 q436) 437 q437) 400 = a := (au_ne (by decide)).trans ha30
  refine qX6_105 (pc := 247) C hnm (fs2 := [.int 0, .int 0, .ref q402, .int 0, .ref q404, .ref q405, .ref q406, .ref q407, .ref q408, .ref q409, .ref q410, .ref q411, .ref q412, .ref q413, .ref q414, .ref q415, .ref q416, .ref q417, .int 0, .ref q419, .ref q420, .ref q421, .ref q422, .int (-1), .int 0, .ref q425, .int 0, .ref q427, .ref q428, .ref q429, .ref q430, .ref q431, .ref q432, .ref q433, .ref q434, .ref q435, .ref q436, .ref q437, .int 0]) ha31 (by decide) rfl rfl dX6_init_247 ?_
  refine r_cg (ad2 := (au (au (au (au (au (au (au (au (au (au (au (au (au (au (au (au (au (au (au (au (au (au (au (au (au (au (au (au (au (au (au ad 402 q402) 404 q404) 405 q405) 406 q406) 407 q407) 408 q408) 409 q409) 410 q410) 411 q411) 412 q412) 413 q413) 414 q414) 415 q415) 416 q416) 417 q417) 419 q419) 420 q420) 421 q421) 422 q422) 425 q425) 427 q427) 428 q428) 429 q429) 430 q430) 431 q431) 432 q432) 433 q433) 434 q434) 435 q435) 436 q436) 437 q437)) (g := cO D (au (au (au (au (au (au (au (au (au (au (au (au (au (au (au (au (au (au (au (au (au (au (au (au (au (au (au (au (au (au (au ad 402 q402) 404 q404) 405 q405) 406 q406) 407 q407) 408 q408) 409 q409) 410 q410) 411 q411) 412 q412) 413 q413) 414 q414) 415 q415) 416 q416) 417 q417) 419 q419) 420 q420) 421 q421) 422 q422) 425 q425) 427 q427) 428 q428) 429 q429) 430 q430) 431 q431) 432 q432) 433 q433) 434 q434) 435 q435) 436 q436) 437 q437) (sI 0 0)) (fun _ _ => rfl) (fun k hk => ?_) ?_
  · rcases (show k = 0 ∨ k = 1 ∨ k = 2 ∨ k = 3 ∨ k = 4 ∨ k = 5 ∨ k = 6 ∨ k = 7 ∨ k = 8 ∨ k = 9 ∨ k = 10 ∨ k = 11 ∨ k = 12 ∨ k = 13 ∨ k = 14 ∨ k = 400 ∨ k = 402 ∨ k = 404 ∨ k = 405 ∨ k = 406 ∨ k = 407 ∨ k = 408 ∨ k = 409 ∨ k = 410 ∨ k = 411 ∨ k = 412 ∨ k = 413 ∨ k = 414 ∨ k = 415 ∨ k = 416 ∨ k = 417 ∨ k = 419 ∨ k = 420 ∨ k = 421 ∨ k = 422 ∨ k = 425 ∨ k = 427 ∨ k = 428 ∨ k = 429 ∨ k = 430 ∨ k = 431 ∨ k = 432 ∨ k = 433 ∨ k = 434 ∨ k = 435 ∨ k = 436 ∨ k = 437 by simpa using hk) with rfl | rfl | rfl | rfl | rfl | rfl | rfl | rfl | rfl | rfl | rfl | rfl | rfl | rfl | rfl | rfl | rfl | rfl | rfl | rfl | rfl | rfl | rfl | rfl | rfl | rfl | rfl | rfl | rfl | rfl | rfl | rfl | rfl | rfl | rfl | rfl | rfl | rfl | rfl | rfl | rfl | rfl | rfl | rfl | rfl | rfl | rfl <;> first | rfl | exact congrArg (fun z => (Sum.inl (D.2 0, 76, Sum.inl z) : va_E)) pkF_0 | exact congrArg (fun z => (Sum.inl (D.2 0, 5, Sum.inl z) : va_E)) (fillF_0 (h := zF) (x := 50)) | exact congrArg (fun z => (Sum.inl (D.2 0, 5, Sum.inl z) : va_E)) (fillF_0 (h := zF) (x := -1))
  obtain ⟨ad9, h9⟩ : ∃ z, z = (au (au (au (au (au (au (au (au (au (au (au (au (au (au (au (au (au (au (au (au (au (au (au (au (au (au (au (au (au (au (au ad 402 q402) 404 q404) 405 q405) 406 q406) 407 q407) 408 q408) 409 q409) 410 q410) 411 q411) 412 q412) 413 q413) 414 q414) 415 q415) 416 q416) 417 q417) 419 q419) 420 q420) 421 q421) 422 q422) 425 q425) 427 q427) 428 q428) 429 q429) 430 q430) 431 q431) 432 q432) 433 q433) 434 q434) 435 q435) 436 q436) 437 q437) := ⟨_, rfl⟩
  have had : ∀ k, k ∈ [0, 1, 2, 3, 4, 5, 6, 7, 8, 9, 10, 11, 12, 13, 14] ++ [400] → ad9 k = ad k := fun k hk => by
    subst h9
    rcases (show k = 0 ∨ k = 1 ∨ k = 2 ∨ k = 3 ∨ k = 4 ∨ k = 5 ∨ k = 6 ∨ k = 7 ∨ k = 8 ∨ k = 9 ∨ k = 10 ∨ k = 11 ∨ k = 12 ∨ k = 13 ∨ k = 14 ∨ k = 400 by simpa using hk) with rfl | rfl | rfl | rfl | rfl | rfl | rfl | rfl | rfl | rfl | rfl | rfl | rfl | rfl | rfl | rfl <;> rfl
  have h40 : ad9 400 = a := by rw [h9]; exact ha31
  rw [← h9]
  refine r_wid (k := 31) (z := 1564) (by decide) (by decide) ?_
  have loop2 : ∀ (z k : Nat), k ≤ 5 → 5 < k + z → V D A 2 ([0, 1, 2, 3, 4, 5, 6, 7, 8, 9, 10, 11, 12, 13, 14, 400, 402, 404, 405, 406, 407, 408, 409, 410, 411, 412, 413, 414, 415, 416, 417, 419, 420, 421, 422, 425, 427, 428, 429, 430, 431, 432, 433, 434, 435, 436, 437], ad9, cO D ad9 (sI 76 k)) p l e (RM 2 31 1564) s m args below meth c 31 1564 (vx_MQ below (va_Qv (fun S1 => ∃ ad' : Nat → Nat, (∀ k, k ∈ [0, 1, 2, 3, 4, 5, 6, 7, 8, 9, 10, 11, 12, 13, 14] ++ [400] → ad' k = ad k) ∧ S1 = ([0, 1, 2, 3, 4, 5, 6, 7, 8, 9, 10, 11, 12, 13, 14, 400, 402, 404, 405, 406, 407, 408, 409, 410, 411, 412, 413, 414, 415, 416, 417, 419, 420, 421, 422, 425, 427, 428, 429, 430, 431, 432, 433, 434, 435, 436, 437], ad', cO D ad' s0)) (PoB D A) A) (XCs D ([0, 1, 2, 3, 4, 5, 6, 7, 8, 9, 10, 11, 12, 13, 14] ++ [400], ad, va_up (cO D ad s0) 400 (.inr (6, [.int 0, .int 0, .null, .int 0, .null, .null, .null, .null, .null, .null, .null, .null, .null, .null, .null, .null, .null, .null, .int 0, .null, .null, .null, .null, .int 0, .int 0, .null, .int 0, .null, .null, .null, .null, .null, .null, .null, .null, .null, .null, .null, .int 0]))) A (nX)) args s 31 1564 A) 289 [some (.ref a), some (.int (nI k))] [] := by
    intro z
    induction z with
    | zero => intro k h1 h2; omega
    | succ z ih =>
      intro k h1 h2
      have hk : nI k + 1 = nI (k + 1) := nI_1 k
      refine r_iload1 (pc := 289) C dX6_init_289 ?_
      refine r_iconst (pc := 290) C (v := nI 5) dX6_init_290 (by decide) ?_
      refine r_icmp_geN (pc := 291) C (tgt := 315) dX6_init_291 (by decide) (by omega) (by omega) (fun c1 => ?_) (fun c1 => ?_)
      · have e5 : k = 5 := by omega
        subst e5
        rw [sI_e]
        exact r_vret C rfl dX6_init_315 (⟨ad9, had, rfl⟩) (by decide) (by decide)
      · refine r_aload0 (pc := 294) C dX6_init_294 ?_
        refine r_getfA (pc := 295) C inU6 (ci := 6) rfl 22 (by decide) fl_RX6_65 rfl (t := 400) h40 (by decide) rfl rfl dX6_init_295 ?_
        refine r_iload1 (pc := 298) C dX6_init_298 ?_
        refine r_bipush (pc := 299) C (v := 50) dX6_init_299 (by decide) ?_
        refine r_iast (pc := 301) C (t := 422) (k := k) (N := 5) (h := sI 76 k 82) (by decide) rfl rfl (by omega) (by decide) (fun q => u_422 q) dX6_init_301 ?_
        refine r_aload0 (pc := 302) C dX6_init_302 ?_
        refine r_getfA (pc := 303) C inU6 (ci := 6) rfl 21 (by decide) fl_RX6_62 rfl (t := 400) h40 (by decide) rfl rfl dX6_init_303 ?_
        refine r_iload1 (pc := 306) C dX6_init_306 ?_
        refine r_iconst (pc := 307) C (v := (-1)) dX6_init_307 (by decide) ?_
        refine r_iast (pc := 308) C (t := 421) (k := k) (N := 5) (h := sI 76 k 81) (by decide) rfl rfl (by omega) (by decide) (fun q => u_421 q) dX6_init_308 ?_
        rw [sI_f]
        refine r_iinc1 (pc := 309) C dX6_init_309 hk ?_
        refine r_goto (pc := 312) C (tgt := 289) dX6_init_312 (by decide) ?_
        exact ih (k + 1) (by omega) (by omega)
  have loop : ∀ (z k : Nat), k ≤ 76 → 76 < k + z → V D A 2 ([0, 1, 2, 3, 4, 5, 6, 7, 8, 9, 10, 11, 12, 13, 14, 400, 402, 404, 405, 406, 407, 408, 409, 410, 411, 412, 413, 414, 415, 416, 417, 419, 420, 421, 422, 425, 427, 428, 429, 430, 431, 432, 433, 434, 435, 436, 437], ad9, cO D ad9 (sI k 0)) p l e (RM 2 31 1564) s m args below meth c 31 1564 (vx_MQ below (va_Qv (fun S1 => ∃ ad' : Nat → Nat, (∀ k, k ∈ [0, 1, 2, 3, 4, 5, 6, 7, 8, 9, 10, 11, 12, 13, 14] ++ [400] → ad' k = ad k) ∧ S1 = ([0, 1, 2, 3, 4, 5, 6, 7, 8, 9, 10, 11, 12, 13, 14, 400, 402, 404, 405, 406, 407, 408, 409, 410, 411, 412, 413, 414, 415, 416, 417, 419, 420, 421, 422, 425, 427, 428, 429, 430, 431, 432, 433, 434, 435, 436, 437], ad', cO D ad' s0)) (PoB D A) A) (XCs D ([0, 1, 2, 3, 4, 5, 6, 7, 8, 9, 10, 11, 12, 13, 14] ++ [400], ad, va_up (cO D ad s0) 400 (.inr (6, [.int 0, .int 0, .null, .int 0, .null, .null, .null, .null, .null, .null, .null, .null, .null, .null, .null, .null, .null, .null, .int 0, .null, .null, .null, .null, .int 0, .int 0, .null, .int 0, .null, .null, .null, .null, .null, .null, .null, .null, .null, .null, .null, .int 0]))) A (nX)) args s 31 1564 A) 252 [some (.ref a), some (.int (nI k))] [] := by
    intro z
    induction z with
    | zero => intro k h1 h2; omega
    | succ z ih =>
      intro k h1 h2
      have hk : nI k + 1 = nI (k + 1) := nI_1 k
      refine r_iload1 (pc := 252) C dX6_init_252 ?_
      refine r_bipush (pc := 253) C (v := nI 76) dX6_init_253 (by decide) ?_
      refine r_icmp_geN (pc := 255) C (tgt := 287) dX6_init_255 (by decide) (by omega) (by omega) (fun c1 => ?_) (fun c1 => ?_)
      · have e5 : k = 76 := by omega
        subst e5
        refine r_iconst (pc := 287) C (v := nI 0) dX6_init_287 (by decide) ?_
        refine r_istore1 (pc := 288) C dX6_init_288 ?_
        exact loop2 6 0 (by omega) (by omega)
      · refine r_aload0 (pc := 258) C dX6_init_258 ?_
        refine r_getfA (pc := 259) C inU6 (ci := 6) rfl 17 (by decide) fl_RX6_52 rfl (t := 400) h40 (by decide) rfl rfl dX6_init_259 ?_
        refine r_iload1 (pc := 262) C dX6_init_262 ?_
        refine r_bipush (pc := 263) C (v := 100) dX6_init_263 (by decide) ?_
        refine r_iload1 (pc := 265) C dX6_init_265 ?_
        refine r_bipush (pc := 266) C (v := 19) dX6_init_266 (by decide) ?_
        refine r_idiv (pc := 268) C dX6_init_268 (by decide) ?_
        refine r_iconst (pc := 269) C (v := 1) dX6_init_269 (by decide) ?_
        refine r_iadd (pc := 270) C dX6_init_270 ?_
        refine r_imul (pc := 271) C dX6_init_271 ?_
        refine r_bipush (pc := 272) C (v := 20) dX6_init_272 (by decide) ?_
        refine r_iload1 (pc := 274) C dX6_init_274 ?_
        refine r_bipush (pc := 275) C (v := 19) dX6_init_275 (by decide) ?_
        refine r_irem (pc := 277) C dX6_init_277 (by decide) ?_
        refine r_isub (pc := 278) C dX6_init_278 ?_
        refine r_imul (pc := 279) C dX6_init_279 ?_
        refine r_iast (pc := 280) C (t := 417) (k := k) (N := 76) (h := sI k 0 77) (by decide) rfl rfl (by omega) (by decide) (fun q => u_417 q) dX6_init_280 ?_
        rw [show 100 * (nI k / 19 + 1) * (20 - (nI k - nI k / 19 * 19)) = pkV k from rfl, sI_p]
        refine r_iinc1 (pc := 281) C dX6_init_281 hk ?_
        refine r_goto (pc := 284) C (tgt := 252) dX6_init_284 (by decide) ?_
        exact ih (k + 1) (by omega) (by omega)
  refine r_iconst (pc := 250) C (v := nI 0) dX6_init_250 (by decide) ?_
  refine r_istore1 (pc := 251) C dX6_init_251 ?_
  exact loop 77 0 (by omega) (by omega)

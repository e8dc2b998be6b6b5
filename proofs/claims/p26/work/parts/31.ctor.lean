/-! ===== constructors ===== -/
section CROWS
variable {D : Gt} {A : Nat → Prop} {own : String} {cc : ByteArray} {n : Nat} {ret : Option FieldType} {tb : List ExceptionTableEntry} {p : Program} {l : Launch} {e : Env} {R : Room} {s : State} {m : MethodId} {args : Array Value} {below : List Frame} {meth : Method} {c : Code} {cells slots : Nat} {Q : State → Prop} {pc : Nat} {L : List (Option Value)} {st : List Value} {T : List Nat} {ad : Nat → Nat}
theorem V_st {S : St} {st2 : List Value} (h : st = st2) (kk : V D A n S p l e R s m args below meth c cells slots Q pc L st2) : V D A n S p l e R s m args below meth c cells slots Q pc L st := by subst h; exact kk
theorem r_nac_int (C : CX D A own cc n ret tb p s m args meth c) {f : Nat → va_E} {o : va_E} {t0 : Nat} {t N : Nat} {x : Int32} (hne : t0 ≠ t) (hx : x = nI N) (hN : N < 2 ^ 20) (ht : t ∉ T) (hcs : cells + 1 ≤ R.cells ∧ slots + N ≤ R.slots) (d : decode cc pc = .ok (.newarray .int, 2)) (kk : ∀ q : Nat, V D A n (T ++ [t], au ad t q, va_up (va_up f t (.inl (D.2 0, N, .inl (fun _ => 0)))) t0 o) p l e R s m args below meth c (cells + 1) (slots + N) Q (pc + 2) L (.ref q :: st)) : V D A n (T, ad, va_up f t0 o) p l e R s m args below meth c cells slots Q pc L (.int x :: st) := r_newa_int C hx hN ht hcs d (fun q => by rw [up_comm hne]; exact kk q)
theorem r_naq_3 (C : CX D A own cc n ret tb p s m args meth c) (hao : va_AO RX3 s) {f : Nat → va_E} {o : va_E} {t0 : Nat} {t N index : Nat} {x : Int32} (hne : t0 ≠ t) (hx : x = nI N) (hN : N < 2 ^ 20) (hcl : Cond.classLink own index RX3 ∈ UW) (ht : t ∉ T) (hcs : cells + 1 ≤ R.cells ∧ slots + N ≤ R.slots) (d : decode cc pc = .ok (.anewarray index, 3)) (kk : ∀ q : Nat, V D A n (T ++ [t], au ad t q, va_up (va_up f t (.inl (D.2 3, N, .inr (.inr (.inr (.inr (fun _ => none))))))) t0 o) p l e R s m args below meth c (cells + 1) (slots + N) Q (pc + 3) L (.ref q :: st)) : V D A n (T, ad, va_up f t0 o) p l e R s m args below meth c cells slots Q pc L (.int x :: st) := r_newq_3 C hao hx hN hcl ht hcs d (fun q => by rw [up_comm hne]; exact kk q)
theorem r_naq_0 (C : CX D A own cc n ret tb p s m args meth c) (hao : va_AO RX0 s) {f : Nat → va_E} {o : va_E} {t0 : Nat} {t N index : Nat} {x : Int32} (hne : t0 ≠ t) (hx : x = nI N) (hN : N < 2 ^ 20) (hcl : Cond.classLink own index RX0 ∈ UW) (ht : t ∉ T) (hcs : cells + 1 ≤ R.cells ∧ slots + N ≤ R.slots) (d : decode cc pc = .ok (.anewarray index, 3)) (kk : ∀ q : Nat, V D A n (T ++ [t], au ad t q, va_up (va_up f t (.inl (D.2 4, N, .inr (.inr (.inr (.inr (fun _ => none))))))) t0 o) p l e R s m args below meth c (cells + 1) (slots + N) Q (pc + 3) L (.ref q :: st)) : V D A n (T, ad, va_up f t0 o) p l e R s m args below meth c cells slots Q pc L (.int x :: st) := r_newq_0 C hao hx hN hcl ht hcs d (fun q => by rw [up_comm hne]; exact kk q)
theorem r_getfA (C : CX D A own cc n ret tb p s m args meth c) {f : Nat → va_E} {Cn : String} {U : u_T} {N ci index : Nat} (hin : ∀ w ∈ u_ws Cn U N, w ∈ UW) (hc : vwCl[ci]? = some (Cn, U, N)) (k : Nat) (hk : k < N) {ref : String} (hl2 : Cond.fieldLink own index ref (U k).2.1 (U k).2.2.1 ∈ UW) (href : ref = (U k).1) {t a : Nat} (ha : ad t = a) {fs : List Value} {v : Value} (ht : t ∈ T) (ho : f t = .inr (ci, fs)) (hv : fs[k]? = some v) (d : decode cc pc = .ok (.getfield index, 3)) (kk : V D A n (T, ad, f) p l e R s m args below meth c cells slots Q (pc + 3) L (v :: st)) : V D A n (T, ad, f) p l e R s m args below meth c cells slots Q pc L (.ref a :: st) := by
  subst ha
  exact r_getf C hin hc k hk hl2 href ht ho hv d kk
theorem r_getfNA (C : CX D A own cc n ret tb p s m args meth c) {f : Nat → va_E} {Cn : String} {U : u_T} {N ci index : Nat} (hin : ∀ w ∈ u_ws Cn U N, w ∈ UW) (hc : vwCl[ci]? = some (Cn, U, N)) (k : Nat) (hk : k < N) {ref host : String} (hl2 : (own, index, ref, (U k).2.1, (U k).2.2.1, host) ∈ NF) (href : ref = (U k).1) {t a : Nat} (ha : ad t = a) {fs : List Value} {v : Value} (ht : t ∈ T) (ho : f t = .inr (ci, fs)) (hv : fs[k]? = some v) (d : decode cc pc = .ok (.getfield index, 3)) (kk : V D A n (T, ad, f) p l e R s m args below meth c cells slots Q (pc + 3) L (v :: st)) : V D A n (T, ad, f) p l e R s m args below meth c cells slots Q pc L (.ref a :: st) := by
  subst ha
  exact r_getfN C hin hc k hk hl2 href ht ho hv d kk
theorem r_iastA (C : CX D A own cc n ret tb p s m args meth c) {f : Nat → va_E} {t k a : Nat} (ha : ad t = a) {N : Nat} {h : Nat → Int32} {x y : Int32} (ht : t ∈ T) (ho : f t = .inl (D.2 0, N, .inl h)) (hx : x = nI k) (hk : k < N) (hN : N < 2 ^ 31) {g : Nat → va_E} (hg : ∀ q : Nat, g q = va_up f t (.inl (D.2 0, N, .inl (upd h k y))) q) (d : decode cc pc = .ok (.iastore, 1)) (kk : V D A n (T, ad, g) p l e R s m args below meth c cells slots Q (pc + 1) L st) : V D A n (T, ad, f) p l e R s m args below meth c cells slots Q pc L (.int y :: .int x :: .ref a :: st) := by
  subst ha
  exact r_iast C ht ho hx hk hN hg d kk
theorem r_alenA (C : CX D A own cc n ret tb p s m args meth c) {f : Nat → va_E} {t a : Nat} (ha : ad t = a) {N : Nat} {h : Nat → Int32} {v : Int32} (ht : t ∈ T) (ho : f t = .inl (D.2 0, N, .inl h)) (hv : Int32.ofNat N = v) (d : decode cc pc = .ok (.arraylength, 1)) (kk : V D A n (T, ad, f) p l e R s m args below meth c cells slots Q (pc + 1) L (.int v :: st)) : V D A n (T, ad, f) p l e R s m args below meth c cells slots Q pc L (.ref a :: st) := by
  subst ha
  exact r_alen C ht ho (tk := 0) rfl hv d kk
end CROWS
set_option maxRecDepth 100000 in
theorem c_X1_init (l : Launch) (D : Gt) (S : St) (a : Nat) : KV D l yX1_init (uws yX1_init cX1_init 1 none) (RM 1 0 0) [.ref a] S (fun S1 => S1 = S) (nX) 0 0 := by
  refine KV_of (own := RX1) (L0 := [some (.ref a)]) (by decide +kernel) rfl (catc rfl cat0) (Nat.le_of_ble_eq_true rfl) rfl ?_
  intro p e s m args below meth c A hnm C
  refine r_aload0 (pc := 0) C dX1_init_0 ?_
  refine kX1_1 (pc := 1) C ⟨by decide, Nat.le_of_ble_eq_true rfl⟩ dX1_init_1 ?_
  exact r_vret C rfl dX1_init_4 (rfl) (by decide) (by decide)
set_option maxRecDepth 100000 in
set_option maxHeartbeats 1000000 in
theorem c_X3_init (l : Launch) (D : Gt) (T : List Nat) (ad : Nat → Nat) (F : Nat → va_E) {t u a : Nat} (ht : t ∈ T) (hu : u ∉ T) (ha : ad t = a) (x1 x2 x3 x4 x5 x6 x7 : Int32) : KV D l yX3_init (uws yX3_init cX3_init 8 none) (RM 2 1 5) [.ref a, .int x1, .int x2, .int x3, .int x4, .int x5, .int x6, .int x7] (T, ad, va_up F t (.inr (3, [.int 0, .int 0, .int 0, .int 0, .int 0, .int 0, .int 0, .null, .int 0, .int 0, .int 0, .int 0]))) (fun S1 => ∃ q, S1 = (T ++ [u], au ad u q, va_up (va_up F u (.inr (1, [.int 0, .int 0, .int 0, .int 0, .int 0]))) t (.inr (3, [.int x1, .int x2, .int x3, .int x4, .int x5, .int x6, .int x7, .ref q, .int 0, .int (-1), .int (-1), .int 0])))) (nX) 1 5 := by
  refine KV_of (own := RX3) (L0 := [some (.ref a), some (.int x1), some (.int x2), some (.int x3), some (.int x4), some (.int x5), some (.int x6), some (.int x7)]) (by decide +kernel) rfl (catc rfl (catc rfl (catc rfl (catc rfl (catc rfl (catc rfl (catc rfl (catc rfl cat0)))))))) (Nat.le_of_ble_eq_true rfl) rfl ?_
  intro p e s m args below meth c A hnm C
  have htu : t ≠ u := fun z => hu (z ▸ ht)
  have ht2 : t ∈ T ++ [u] := List.mem_append_left _ ht
  refine r_aload0 (pc := 0) C dX3_init_0 ?_
  refine kX3_3 (pc := 1) C ⟨by decide, Nat.le_of_ble_eq_true rfl⟩ dX3_init_1 ?_
  refine r_aload0 (pc := 4) C dX3_init_4 ?_
  refine r_new (pc := 5) C inU1 (ci := 1) (t := u) (fs := [.int 0, .int 0, .int 0, .int 0, .int 0]) rfl tyX1 tyX1_ok kl_RX3_9 ia_L1 iz_L1 (fun j hj => by
      rcases j with _ | _ | _ | _ | _ | j <;> first | rfl | omega) hu (by decide) dX3_init_5 (fun q => ?_)
  rw [up_comm htu]
  have ha2 : au ad u q t = a := (au_ne htu).trans ha
  refine r_dup (pc := 8) C dX3_init_8 rfl ?_
  refine V_st (st2 := [.ref (au ad u q u), .ref q, .ref a]) (by rw [au_eq]) ?_
  refine kX3_11 (pc := 9) C (c_X1_init l D _ _) dX3_init_9 (Nat.le_of_ble_eq_true rfl) (by decide) ?_
  rintro _ rfl
  refine qX3_12 (pc := 12) C hnm (fs2 := [.int 0, .int 0, .int 0, .int 0, .int 0, .int 0, .int 0, .ref q, .int 0, .int 0, .int 0, .int 0]) ha2 ht2 rfl rfl dX3_init_12 ?_
  refine r_aload0 (pc := 15) C dX3_init_15 ?_
  refine r_iconst (pc := 16) C (v := 0) dX3_init_16 (by decide) ?_
  refine qX3_18 (pc := 17) C hnm (fs2 := [.int 0, .int 0, .int 0, .int 0, .int 0, .int 0, .int 0, .ref q, .int 0, .int 0, .int 0, .int 0]) ha2 ht2 rfl rfl dX3_init_17 ?_
  refine r_aload0 (pc := 20) C dX3_init_20 ?_
  refine r_iconst (pc := 21) C (v := (-1)) dX3_init_21 (by decide) ?_
  refine qX3_22 (pc := 22) C hnm (fs2 := [.int 0, .int 0, .int 0, .int 0, .int 0, .int 0, .int 0, .ref q, .int 0, .int (-1), .int 0, .int 0]) ha2 ht2 rfl rfl dX3_init_22 ?_
  refine r_aload0 (pc := 25) C dX3_init_25 ?_
  refine r_iconst (pc := 26) C (v := (-1)) dX3_init_26 (by decide) ?_
  refine qX3_25 (pc := 27) C hnm (fs2 := [.int 0, .int 0, .int 0, .int 0, .int 0, .int 0, .int 0, .ref q, .int 0, .int (-1), .int (-1), .int 0]) ha2 ht2 rfl rfl dX3_init_27 ?_
  refine r_aload0 (pc := 30) C dX3_init_30 ?_
  refine r_iload1 (pc := 31) C dX3_init_31 ?_
  refine qX3_28 (pc := 32) C hnm (fs2 := [.int x1, .int 0, .int 0, .int 0, .int 0, .int 0, .int 0, .ref q, .int 0, .int (-1), .int (-1), .int 0]) ha2 ht2 rfl rfl dX3_init_32 ?_
  refine r_aload0 (pc := 35) C dX3_init_35 ?_
  refine r_iload2 (pc := 36) C dX3_init_36 ?_
  refine qX3_31 (pc := 37) C hnm (fs2 := [.int x1, .int x2, .int 0, .int 0, .int 0, .int 0, .int 0, .ref q, .int 0, .int (-1), .int (-1), .int 0]) ha2 ht2 rfl rfl dX3_init_37 ?_
  refine r_aload0 (pc := 40) C dX3_init_40 ?_
  refine r_iload3 (pc := 41) C dX3_init_41 ?_
  refine qX3_34 (pc := 42) C hnm (fs2 := [.int x1, .int x2, .int x3, .int 0, .int 0, .int 0, .int 0, .ref q, .int 0, .int (-1), .int (-1), .int 0]) ha2 ht2 rfl rfl dX3_init_42 ?_
  refine r_aload0 (pc := 45) C dX3_init_45 ?_
  refine r_iload4 (pc := 46) C dX3_init_46 ?_
  refine qX3_37 (pc := 48) C hnm (fs2 := [.int x1, .int x2, .int x3, .int x4, .int 0, .int 0, .int 0, .ref q, .int 0, .int (-1), .int (-1), .int 0]) ha2 ht2 rfl rfl dX3_init_48 ?_
  refine r_aload0 (pc := 51) C dX3_init_51 ?_
  refine r_iload5 (pc := 52) C dX3_init_52 ?_
  refine qX3_40 (pc := 54) C hnm (fs2 := [.int x1, .int x2, .int x3, .int x4, .int x5, .int 0, .int 0, .ref q, .int 0, .int (-1), .int (-1), .int 0]) ha2 ht2 rfl rfl dX3_init_54 ?_
  refine r_aload0 (pc := 57) C dX3_init_57 ?_
  refine r_iload6 (pc := 58) C dX3_init_58 ?_
  refine qX3_43 (pc := 60) C hnm (fs2 := [.int x1, .int x2, .int x3, .int x4, .int x5, .int x6, .int 0, .ref q, .int 0, .int (-1), .int (-1), .int 0]) ha2 ht2 rfl rfl dX3_init_60 ?_
  refine r_aload0 (pc := 63) C dX3_init_63 ?_
  refine r_iload7 (pc := 64) C dX3_init_64 ?_
  refine qX3_46 (pc := 66) C hnm (fs2 := [.int x1, .int x2, .int x3, .int x4, .int x5, .int x6, .int x7, .ref q, .int 0, .int (-1), .int (-1), .int 0]) ha2 ht2 rfl rfl dX3_init_66 ?_
  exact r_vret C rfl dX3_init_69 (⟨q, rfl⟩) (by decide) (by decide)
set_option maxRecDepth 100000 in
set_option maxHeartbeats 1000000 in
theorem c_X0_init (l : Launch) (D : Gt) (T : List Nat) (ad : Nat → Nat) (F : Nat → va_E) {t u a : Nat} (ht : t ∈ T) (hu : u ∉ T) (ha : ad t = a) {r b z : Nat} {y0 y1 y2 y3 y4 y5 y6 y8 y9 y10 y11 : Int32} (hr : r ∈ T) (hrt : r ≠ t) (hb : ad r = b) (hF : F r = .inr (3, [.int y0, .int y1, .int y2, .int y3, .int y4, .int y5, .int y6, .ref z, .int y8, .int y9, .int y10, .int y11])) (x2 x3 : Int32) : KV D l yX0_init (uws yX0_init cX0_init 4 none) (RM 2 1 5) [.ref a, .ref b, .int x2, .int x3] (T, ad, va_up F t (.inr (0, [.int 0, .int 0, .int 0, .int 0, .int 0, .int 0, .null, .int 0, .int 0]))) (fun S1 => ∃ q, S1 = (T ++ [u], au ad u q, va_up (va_up F u (.inr (1, [.int 0, .int 0, .int 0, .int 0, .int 0]))) t (.inr (0, [.int y0, .int y5, .int y2, .int y9, .int x2, .int x3, .ref q, .int (x3 * y3 / 12 * 60 / 100), .int (-1)])))) (nX) 1 5 := by
  refine KV_of (own := RX0) (L0 := [some (.ref a), some (.ref b), some (.int x2), some (.int x3)]) (by decide +kernel) rfl (catc rfl (catc rfl (catc rfl (catc rfl cat0)))) (Nat.le_of_ble_eq_true rfl) rfl ?_
  intro p e s m args below meth c A hnm C
  have htu : t ≠ u := fun z => hu (z ▸ ht)
  have ht2 : t ∈ T ++ [u] := List.mem_append_left _ ht
  refine r_aload0 (pc := 0) C dX0_init_0 ?_
  refine kX0_3 (pc := 1) C ⟨by decide, Nat.le_of_ble_eq_true rfl⟩ dX0_init_1 ?_
  refine r_aload0 (pc := 4) C dX0_init_4 ?_
  refine r_new (pc := 5) C inU1 (ci := 1) (t := u) (fs := [.int 0, .int 0, .int 0, .int 0, .int 0]) rfl tyX1 tyX1_ok kl_RX0_9 ia_L1 iz_L1 (fun j hj => by
      rcases j with _ | _ | _ | _ | _ | j <;> first | rfl | omega) hu (by decide) dX0_init_5 (fun q => ?_)
  rw [up_comm htu]
  have ha2 : au ad u q t = a := (au_ne htu).trans ha
  refine r_dup (pc := 8) C dX0_init_8 rfl ?_
  refine V_st (st2 := [.ref (au ad u q u), .ref q, .ref a]) (by rw [au_eq]) ?_
  refine kX0_11 (pc := 9) C (c_X1_init l D _ _) dX0_init_9 (Nat.le_of_ble_eq_true rfl) (by decide) ?_
  rintro _ rfl
  refine qX0_12 (pc := 12) C hnm (fs2 := [.int 0, .int 0, .int 0, .int 0, .int 0, .int 0, .ref q, .int 0, .int 0]) ha2 ht2 rfl rfl dX0_init_12 ?_
  refine r_aload0 (pc := 15) C dX0_init_15 ?_
  refine r_iconst (pc := 16) C (v := (-1)) dX0_init_16 (by decide) ?_
  refine qX0_18 (pc := 17) C hnm (fs2 := [.int 0, .int 0, .int 0, .int 0, .int 0, .int 0, .ref q, .int 0, .int (-1)]) ha2 ht2 rfl rfl dX0_init_17 ?_
  have hru : r ≠ u := fun z => hu (z ▸ hr)
  have hr2 : r ∈ T ++ [u] := List.mem_append_left _ hr
  have hb2 : au ad u q r = b := (au_ne hru).trans hb
  refine r_aload0 (pc := 20) C dX0_init_20 ?_
  refine r_aload1 (pc := 21) C dX0_init_21 ?_
  refine r_getfNA (pc := 22) C inU3 (ci := 3) rfl 0 (by decide) fl_RX0_22 rfl (t := r) (fs := [.int y0, .int y1, .int y2, .int y3, .int y4, .int y5, .int y6, .ref z, .int y8, .int y9, .int y10, .int y11]) hb2 hr2 (by rw [va_up_ne _ _ hrt, va_up_ne _ _ hru]; exact hF) rfl dX0_init_22 ?_
  refine qX0_27 (pc := 25) C hnm (fs2 := [.int y0, .int 0, .int 0, .int 0, .int 0, .int 0, .ref q, .int 0, .int (-1)]) ha2 ht2 rfl rfl dX0_init_25 ?_
  refine r_aload0 (pc := 28) C dX0_init_28 ?_
  refine r_aload1 (pc := 29) C dX0_init_29 ?_
  refine r_getfNA (pc := 30) C inU3 (ci := 3) rfl 5 (by decide) fl_RX0_30 rfl (t := r) (fs := [.int y0, .int y1, .int y2, .int y3, .int y4, .int y5, .int y6, .ref z, .int y8, .int y9, .int y10, .int y11]) hb2 hr2 (by rw [va_up_ne _ _ hrt, va_up_ne _ _ hru]; exact hF) rfl dX0_init_30 ?_
  refine qX0_33 (pc := 33) C hnm (fs2 := [.int y0, .int y5, .int 0, .int 0, .int 0, .int 0, .ref q, .int 0, .int (-1)]) ha2 ht2 rfl rfl dX0_init_33 ?_
  refine r_aload0 (pc := 36) C dX0_init_36 ?_
  refine r_aload1 (pc := 37) C dX0_init_37 ?_
  refine r_getfNA (pc := 38) C inU3 (ci := 3) rfl 2 (by decide) fl_RX0_34 rfl (t := r) (fs := [.int y0, .int y1, .int y2, .int y3, .int y4, .int y5, .int y6, .ref z, .int y8, .int y9, .int y10, .int y11]) hb2 hr2 (by rw [va_up_ne _ _ hrt, va_up_ne _ _ hru]; exact hF) rfl dX0_init_38 ?_
  refine qX0_37 (pc := 41) C hnm (fs2 := [.int y0, .int y5, .int y2, .int 0, .int 0, .int 0, .ref q, .int 0, .int (-1)]) ha2 ht2 rfl rfl dX0_init_41 ?_
  refine r_aload0 (pc := 44) C dX0_init_44 ?_
  refine r_aload1 (pc := 45) C dX0_init_45 ?_
  refine r_getfNA (pc := 46) C inU3 (ci := 3) rfl 9 (by decide) fl_RX0_40 rfl (t := r) (fs := [.int y0, .int y1, .int y2, .int y3, .int y4, .int y5, .int y6, .ref z, .int y8, .int y9, .int y10, .int y11]) hb2 hr2 (by rw [va_up_ne _ _ hrt, va_up_ne _ _ hru]; exact hF) rfl dX0_init_46 ?_
  refine qX0_43 (pc := 49) C hnm (fs2 := [.int y0, .int y5, .int y2, .int y9, .int 0, .int 0, .ref q, .int 0, .int (-1)]) ha2 ht2 rfl rfl dX0_init_49 ?_
  refine r_aload0 (pc := 52) C dX0_init_52 ?_
  refine r_iload2 (pc := 53) C dX0_init_53 ?_
  refine qX0_44 (pc := 54) C hnm (fs2 := [.int y0, .int y5, .int y2, .int y9, .int x2, .int 0, .ref q, .int 0, .int (-1)]) ha2 ht2 rfl rfl dX0_init_54 ?_
  refine r_aload0 (pc := 57) C dX0_init_57 ?_
  refine r_iload3 (pc := 58) C dX0_init_58 ?_
  refine qX0_47 (pc := 59) C hnm (fs2 := [.int y0, .int y5, .int y2, .int y9, .int x2, .int x3, .ref q, .int 0, .int (-1)]) ha2 ht2 rfl rfl dX0_init_59 ?_
  refine r_aload0 (pc := 62) C dX0_init_62 ?_
  refine r_iload3 (pc := 63) C dX0_init_63 ?_
  refine r_aload1 (pc := 64) C dX0_init_64 ?_
  refine r_getfNA (pc := 65) C inU3 (ci := 3) rfl 3 (by decide) fl_RX0_50 rfl (t := r) (fs := [.int y0, .int y1, .int y2, .int y3, .int y4, .int y5, .int y6, .ref z, .int y8, .int y9, .int y10, .int y11]) hb2 hr2 (by rw [va_up_ne _ _ hrt, va_up_ne _ _ hru]; exact hF) rfl dX0_init_65 ?_
  refine r_imul (pc := 68) C dX0_init_68 ?_
  refine r_bipush (pc := 69) C (v := 12) dX0_init_69 (by decide) ?_
  refine r_idiv (pc := 71) C dX0_init_71 (by decide) ?_
  refine r_bipush (pc := 72) C (v := 60) dX0_init_72 (by decide) ?_
  refine r_imul (pc := 74) C dX0_init_74 ?_
  refine r_bipush (pc := 75) C (v := 100) dX0_init_75 (by decide) ?_
  refine r_idiv (pc := 77) C dX0_init_77 (by decide) ?_
  refine qX0_53 (pc := 78) C hnm (fs2 := [.int y0, .int y5, .int y2, .int y9, .int x2, .int x3, .ref q, .int (x3 * y3 / 12 * 60 / 100), .int (-1)]) ha2 ht2 rfl rfl dX0_init_78 ?_
  exact r_vret C rfl dX0_init_81 (⟨q, rfl⟩) (by decide) (by decide)
set_option maxRecDepth 100000 in
set_option maxHeartbeats 1000000 in
theorem c_X4_init (l : Launch) (D : Gt) (T : List Nat) (ad : Nat → Nat) (F : Nat → va_E) {t u a : Nat} (ht : t ∈ T) (hu : u ∉ T) (ha : ad t = a) : KV D l yX4_init (uws yX4_init cX4_init 1 none) (RM 2 1 5) [.ref a] (T, ad, va_up F t (.inr (4, [.null, .int 0, .null]))) (fun S1 => ∃ q, S1 = (T ++ [u], au ad u q, va_up (va_up F u (.inl (D.2 0, 5, .inl (fun _ => 0)))) t (.inr (4, [.null, .int 0, .ref q])))) (nX) 1 5 := by
  refine KV_of (own := RX4) (L0 := [some (.ref a)]) (by decide +kernel) rfl (catc rfl cat0) (Nat.le_of_ble_eq_true rfl) rfl ?_
  intro p e s m args below meth c A hnm C
  have htu : t ≠ u := fun z => hu (z ▸ ht)
  have ht2 : t ∈ T ++ [u] := List.mem_append_left _ ht
  refine r_aload0 (pc := 0) C dX4_init_0 ?_
  refine kX4_3 (pc := 1) C ⟨by decide, Nat.le_of_ble_eq_true rfl⟩ dX4_init_1 ?_
  refine r_aload0 (pc := 4) C dX4_init_4 ?_
  refine r_iconst (pc := 5) C (v := 5) dX4_init_5 (by decide) ?_
  refine r_nac_int (pc := 6) C (t := u) (N := 5) htu rfl (by decide) hu (by decide) dX4_init_6 (fun q => ?_)
  have ha2 : au ad u q t = a := (au_ne htu).trans ha
  refine qX4_9 (pc := 8) C hnm (fs2 := [.null, .int 0, .ref q]) ha2 ht2 rfl rfl dX4_init_8 ?_
  exact r_vret C rfl dX4_init_11 (⟨q, rfl⟩) (by decide) (by decide)
def pkV (j : Nat) : Int32 := 100 * (nI j / 19 + 1) * (20 - (nI j - nI j / 19 * 19))
def pkF (k : Nat) : Nat → Int32 := fun j => if j < k then pkV j else 0
theorem pkF_0 : pkF 0 = fun _ => 0 := by funext j; exact if_neg (Nat.not_lt_zero j)
theorem pkF_s {k : Nat} : upd (pkF k) k (pkV k) = pkF (k + 1) := by
  funext j
  unfold upd pkF
  by_cases e : j = k
  · subst e; rw [if_pos rfl, if_pos (by omega)]
  · rw [if_neg e]
    by_cases g : j < k
    · rw [if_pos g, if_pos (by omega)]
    · rw [if_neg g, if_neg (by omega)]
set_option maxRecDepth 100000 in
set_option maxHeartbeats 1000000 in
theorem c_X2_init (l : Launch) (D : Gt) (T : List Nat) (ad : Nat → Nat) (F : Nat → va_E) {t u a : Nat} (ht : t ∈ T) (hu : u ∉ T) (ha : ad t = a) : KV D l yX2_init (uws yX2_init cX2_init 2 none) (RM 2 1 76) [.ref a] (T, ad, va_up F t (.inr (2, [.null]))) (fun S1 => ∃ q, S1 = (T ++ [u], au ad u q, va_up (va_up F u (.inl (D.2 0, 76, .inl (pkF 76)))) t (.inr (2, [.ref q])))) (nX) 1 76 := by
  refine KV_of (own := RX2) (L0 := [some (.ref a), none]) (by decide +kernel) rfl (catc rfl cat0) (Nat.le_of_ble_eq_true rfl) rfl ?_
  intro p e s m args below meth c A hnm C
  have htu : t ≠ u := fun z => hu (z ▸ ht)
  have ht2 : t ∈ T ++ [u] := List.mem_append_left _ ht
  refine r_aload0 (pc := 0) C dX2_init_0 ?_
  refine kX2_3 (pc := 1) C ⟨by decide, Nat.le_of_ble_eq_true rfl⟩ dX2_init_1 ?_
  refine r_aload0 (pc := 4) C dX2_init_4 ?_
  refine r_bipush (pc := 5) C (v := 76) dX2_init_5 (by decide) ?_
  refine r_nac_int (pc := 7) C (t := u) (N := 76) htu rfl (by decide) hu (by decide) dX2_init_7 (fun q => ?_)
  have ha2 : au ad u q t = a := (au_ne htu).trans ha
  have hu2 : u ∈ T ++ [u] := List.mem_append_right _ List.mem_cons_self
  refine qX2_9 (pc := 9) C hnm (fs2 := [.ref q]) ha2 ht2 rfl rfl dX2_init_9 ?_
  have loop : ∀ (z k : Nat), k ≤ 76 → 76 < k + z → V D A 2 (T ++ [u], au ad u q, va_up (va_up F u (.inl (D.2 0, 76, .inl (pkF k)))) t (.inr (2, [.ref q]))) p l e (RM 2 1 76) s m args below meth c (0 + 1) (0 + 76) (vx_MQ below (va_Qv (fun S1 => ∃ q, S1 = (T ++ [u], au ad u q, va_up (va_up F u (.inl (D.2 0, 76, .inl (pkF 76)))) t (.inr (2, [.ref q])))) (PoB D A) A) (XCs D (T, ad, va_up F t (.inr (2, [.null]))) A (nX)) args s 1 76 A) 14 [some (.ref a), some (.int (nI k))] [] := by
    intro z
    induction z with
    | zero => intro k h1 h2; omega
    | succ z ih =>
      intro k h1 h2
      have hk : nI k + 1 = nI (k + 1) := nI_1 k
      refine r_iload1 (pc := 14) C dX2_init_14 ?_
      refine r_aload0 (pc := 15) C dX2_init_15 ?_
      refine r_getfA (pc := 16) C inU2 (ci := 2) rfl 0 (by decide) fl_RX2_9 rfl (t := t) (fs := [.ref q]) ha2 ht2 (va_up_self _ _ _) rfl dX2_init_16 ?_
      refine r_alenA (pc := 19) C (t := u) au_eq hu2 (by rw [va_up_ne _ _ (Ne.symm htu), va_up_self]) (v := nI 76) rfl dX2_init_19 ?_
      refine r_icmp_geN (pc := 20) C (tgt := 52) dX2_init_20 (by decide) (by omega) (by omega) (fun c1 => ?_) (fun c1 => ?_)
      · have e76 : k = 76 := by omega
        subst e76
        exact r_vret C rfl dX2_init_52 (⟨q, rfl⟩) (by decide) (by decide)
      · refine r_aload0 (pc := 23) C dX2_init_23 ?_
        refine r_getfA (pc := 24) C inU2 (ci := 2) rfl 0 (by decide) fl_RX2_9 rfl (t := t) (fs := [.ref q]) ha2 ht2 (va_up_self _ _ _) rfl dX2_init_24 ?_
        refine r_iload1 (pc := 27) C dX2_init_27 ?_
        refine r_bipush (pc := 28) C (v := 100) dX2_init_28 (by decide) ?_
        refine r_iload1 (pc := 30) C dX2_init_30 ?_
        refine r_bipush (pc := 31) C (v := 19) dX2_init_31 (by decide) ?_
        refine r_idiv (pc := 33) C dX2_init_33 (by decide) ?_
        refine r_iconst (pc := 34) C (v := 1) dX2_init_34 (by decide) ?_
        refine r_iadd (pc := 35) C dX2_init_35 ?_
        refine r_imul (pc := 36) C dX2_init_36 ?_
        refine r_bipush (pc := 37) C (v := 20) dX2_init_37 (by decide) ?_
        refine r_iload1 (pc := 39) C dX2_init_39 ?_
        refine r_bipush (pc := 40) C (v := 19) dX2_init_40 (by decide) ?_
        refine r_irem (pc := 42) C dX2_init_42 (by decide) ?_
        refine r_isub (pc := 43) C dX2_init_43 ?_
        refine r_imul (pc := 44) C dX2_init_44 ?_
        refine r_iastA (pc := 45) C (t := u) (k := k) au_eq hu2 (by rw [va_up_ne _ _ (Ne.symm htu), va_up_self]) rfl (by omega) (by decide) (g := va_up (va_up F u (.inl (D.2 0, 76, .inl (pkF (k + 1))))) t (.inr (2, [.ref q]))) (fun x => ?_) dX2_init_45 ?_
        · rw [up_comm (f := va_up F u (.inl (D.2 0, 76, .inl (pkF k)))) htu, up_up, show 100 * (nI k / 19 + 1) * (20 - (nI k - nI k / 19 * 19)) = pkV k from rfl, pkF_s]
        refine r_iinc1 (pc := 46) C dX2_init_46 hk ?_
        refine r_goto (pc := 49) C (tgt := 14) dX2_init_49 (by decide) ?_
        exact ih (k + 1) (by omega) (by omega)
  refine r_iconst (pc := 12) C (v := 0) dX2_init_12 (by decide) ?_
  refine r_istore1 (pc := 13) C dX2_init_13 ?_
  rw [← pkF_0]
  exact loop 77 0 (by omega) (by omega)

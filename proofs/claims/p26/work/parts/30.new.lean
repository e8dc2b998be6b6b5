/-! ===== rows for new objects and arrays; the fields of an object that is being made ===== -/
theorem ac_int : Cond.arrayClass .int ∈ UW := UW_m (i := 55) (by decide +kernel) (by decide +kernel)
theorem ia_L5 : Cond.instantiable RX5 17 ∈ UW := UW_m (i := 36) (by decide +kernel) (by decide +kernel)
theorem ia_L2 : Cond.instantiable RX2 1 ∈ UW := UW_m (i := 46) (by decide +kernel) (by decide +kernel)
theorem ia_L4 : Cond.instantiable RX4 3 ∈ UW := UW_m (i := 57) (by decide +kernel) (by decide +kernel)
theorem ia_L3 : Cond.instantiable RX3 12 ∈ UW := UW_m (i := 583) (by decide +kernel) (by decide +kernel)
theorem ia_L1 : Cond.instantiable RX1 5 ∈ UW := UW_m (i := 454) (by decide +kernel) (by decide +kernel)
theorem ia_L0 : Cond.instantiable RX0 9 ∈ UW := UW_m (i := 448) (by decide +kernel) (by decide +kernel)
theorem iz_L0 : Cond.initialized RX0 ∈ UW := UW_m (i := 32) (by decide +kernel) (by decide +kernel)
theorem iz_L1 : Cond.initialized RX1 ∈ UW := UW_m (i := 33) (by decide +kernel) (by decide +kernel)
theorem iz_L2 : Cond.initialized RX2 ∈ UW := UW_m (i := 22) (by decide +kernel) (by decide +kernel)
theorem iz_L3 : Cond.initialized RX3 ∈ UW := UW_m (i := 34) (by decide +kernel) (by decide +kernel)
theorem iz_L4 : Cond.initialized RX4 ∈ UW := UW_m (i := 23) (by decide +kernel) (by decide +kernel)
theorem iz_L5 : Cond.initialized RX5 ∈ UW := UW_m (i := 21) (by decide +kernel) (by decide +kernel)
theorem kl_RX5_22 : Cond.classLink RX5 22 RX2 ∈ UW := UW_m (i := 45) (by decide +kernel) (by decide +kernel)
theorem kl_RX5_38 : Cond.classLink RX5 38 RX4 ∈ UW := UW_m (i := 56) (by decide +kernel) (by decide +kernel)
theorem kl_RX5_13 : Cond.classLink RX5 13 RX3 ∈ UW := UW_m (i := 43) (by decide +kernel) (by decide +kernel)
theorem kl_RX5_45 : Cond.classLink RX5 45 RX0 ∈ UW := UW_m (i := 74) (by decide +kernel) (by decide +kernel)
theorem kl_RX3_9 : Cond.classLink RX3 9 RX1 ∈ UW := UW_m (i := 588) (by decide +kernel) (by decide +kernel)
theorem kl_RX0_9 : Cond.classLink RX0 9 RX1 ∈ UW := UW_m (i := 453) (by decide +kernel) (by decide +kernel)
theorem up_comm {f : Nat → va_E} {a b : Nat} {x y : va_E} (h : a ≠ b) : va_up (va_up f a x) b y = va_up (va_up f b y) a x := by
  funext j
  by_cases e1 : j = b
  · subst e1; rw [va_up_self, va_up_ne _ _ (Ne.symm h), va_up_self]
  · rw [va_up_ne _ _ e1]
    by_cases e2 : j = a
    · subst e2; rw [va_up_self, va_up_self]
    · rw [va_up_ne _ _ e2, va_up_ne _ _ e2, va_up_ne _ _ e1]
def au (ad : Nat → Nat) (t q : Nat) : Nat → Nat := fun k => if k = t then q else ad k
theorem au_eq {ad : Nat → Nat} {t q : Nat} : au ad t q t = q := if_pos rfl
theorem au_ne {ad : Nat → Nat} {t q k : Nat} (h : k ≠ t) : au ad t q k = ad k := if_neg h
theorem wS_new {T : List Nat} {ad : Nat → Nat} {f : Nat → va_E} {t q : Nat} {e : va_E} (ht : t ∉ T) : wS (T, ad, f) ++ [(q, e)] = wS (T ++ [t], au ad t q, va_up f t e) := by
  have h := wS_push (T := T) (ad := ad) (ad' := au ad t q) (f := f) (g := va_up f t e) (t := t) (fun k hk => if_neg (fun z : k = t => ht (z ▸ hk))) (fun k hk => va_up_ne _ _ (fun z : k = t => ht (z ▸ hk)))
  rw [← h, va_up_self]
  rw [au_eq]
theorem not_in {a : Nat} {T : List Nat} (h : T.contains a = false) : a ∉ T := fun q => by
  have := List.contains_iff_mem.mpr q
  rw [h] at this; cases this
section NROWS
variable {D : Gt} {A : Nat → Prop} {own : String} {cc : ByteArray} {n : Nat} {ret : Option FieldType} {tb : List ExceptionTableEntry} {p : Program} {l : Launch} {e : Env} {R : Room} {s : State} {m : MethodId} {args : Array Value} {below : List Frame} {meth : Method} {c : Code} {cells slots : Nat} {Q : State → Prop} {pc : Nat} {L : List (Option Value)} {st : List Value} {T : List Nat} {ad : Nat → Nat} {f : Nat → va_E}
theorem r_newa_int (C : CX D A own cc n ret tb p s m args meth c) {t N : Nat} {x : Int32} (hx : x = nI N) (hN : N < 2 ^ 20) (ht : t ∉ T) (hcs : cells + 1 ≤ R.cells ∧ slots + N ≤ R.slots) (d : decode cc pc = .ok (.newarray .int, 2)) (kk : ∀ q : Nat, V D A n (T ++ [t], au ad t q, va_up f t (.inl (D.2 0, N, .inl (fun _ => 0)))) p l e R s m args below meth c (cells + 1) (slots + N) Q (pc + 2) L (.ref q :: st)) : V D A n (T, ad, f) p l e R s m args below meth c cells slots Q pc L (.int x :: st) := fun H locs ls hP hD hS hl => by
  subst hx
  refine va_newa (atype := .int) (a0 := (N, .inl (fun _ => 0))) C.1.1 C.1.2.1 (C.1.2.2.2.2 _ ac_int) (ty := .int) rfl C.2.1 hP hD hS C.2.2.2.2.2.2.1 (N' := N) (fun cA => rfl) (nI_pos (by omega)) (nI_clamp (by omega)) (by show N * _ ≤ _; simp [componentBytes]; omega) hcs.1 hcs.2 d (fun q cA H1 hK1 hP1 hD1 hS1 => ?_)
  have e : cA = D.2 0 := Option.some.inj ((hK1.2 3 (cA, .int) rfl).2.symm.trans (C.2.1.2 0 (D.2 0, .int) rfl).2)
  subst e
  rw [wS_new ht] at hP1 hD1
  exact kk q H1 locs ls hP1 hD1 hS1 hl
theorem r_new (C : CX D A own cc n ret tb p s m args meth c) {t N ci index : Nat} {Cn : String} {U : u_T} {fs : List Value} (hin : ∀ w ∈ u_ws Cn U N, w ∈ UW) (hc : vwCl[ci]? = some (Cn, U, N)) (ty : Nat → FieldType) (hty : ∀ k, k < N → parseFieldDescriptor (U k).2.2.1 = some (ty k)) (hcl : Cond.classLink own index Cn ∈ UW) (hinst : Cond.instantiable Cn N ∈ UW) (hini : Cond.initialized Cn ∈ UW) (hfs : ∀ j, j < N → defaultValue (ty j) = vp_V fs j) (ht : t ∉ T) (hcs : cells + 1 ≤ R.cells ∧ slots + N ≤ R.slots) (d : decode cc pc = .ok (.new index, 3)) (kk : ∀ q : Nat, V D A n (T ++ [t], au ad t q, va_up f t (.inr (ci, fs))) p l e R s m args below meth c (cells + 1) (slots + N) Q (pc + 3) L (.ref q :: st)) : V D A n (T, ad, f) p l e R s m args below meth c cells slots Q pc L st := fun H locs ls hP hD hS hl => by
  refine va_new C.1.1 C.1.2.1 C.1.2.2.2.2 hin ty hty C.1.2.2.2.1 (C.1.2.2.2.2 _ hcl) (C.1.2.2.2.2 _ hinst) (C.1.2.2.2.2 _ hini) C.2.1 hP hD hS C.2.2.2.2.2.2.1 hc hfs hcs.1 hcs.2 d (fun q H1 hP1 hD1 hS1 => ?_)
  rw [wS_new ht] at hP1 hD1
  exact kk q H1 locs ls hP1 hD1 hS1 hl
theorem r_newq_3 (C : CX D A own cc n ret tb p s m args meth c) (hao : va_AO RX3 s) {t N index : Nat} {x : Int32} (hx : x = nI N) (hN : N < 2 ^ 20) (hcl : Cond.classLink own index RX3 ∈ UW) (ht : t ∉ T) (hcs : cells + 1 ≤ R.cells ∧ slots + N ≤ R.slots) (d : decode cc pc = .ok (.anewarray index, 3)) (kk : ∀ q : Nat, V D A n (T ++ [t], au ad t q, va_up f t (.inl (D.2 3, N, .inr (.inr (.inr (.inr (fun _ => none))))))) p l e R s m args below meth c (cells + 1) (slots + N) Q (pc + 3) L (.ref q :: st)) : V D A n (T, ad, f) p l e R s m args below meth c cells slots Q pc L (.int x :: st) := fun H locs ls hP hD hS hl => by
  subst hx
  refine va_newq C.1.1 C.1.2.1 C.1.2.2.2.1 (C.1.2.2.2.2 _ hcl) hao C.2.1 hP hD hS C.2.2.2.2.2.2.1 (N' := N) (nI_pos (by omega)) (nI_clamp (by omega)) (by omega) hcs.1 hcs.2 d (fun q cA H1 hK1 hP1 hD1 hS1 => ?_)
  have e : cA = D.2 3 := by
    obtain ⟨kA, comp, h1, h2, h3, h4⟩ := (hK1.2 3 (cA, .object RX3) rfl).2
    obtain ⟨kB, comp2, g1, g2, g3, g4⟩ := (C.2.1.2 1 (D.2 3, .object RX3) rfl).2
    exact Option.some.inj (h4.symm.trans g4)
  subst e
  rw [wS_new ht] at hP1 hD1
  exact kk q H1 locs ls hP1 hD1 hS1 hl
theorem r_newq_0 (C : CX D A own cc n ret tb p s m args meth c) (hao : va_AO RX0 s) {t N index : Nat} {x : Int32} (hx : x = nI N) (hN : N < 2 ^ 20) (hcl : Cond.classLink own index RX0 ∈ UW) (ht : t ∉ T) (hcs : cells + 1 ≤ R.cells ∧ slots + N ≤ R.slots) (d : decode cc pc = .ok (.anewarray index, 3)) (kk : ∀ q : Nat, V D A n (T ++ [t], au ad t q, va_up f t (.inl (D.2 4, N, .inr (.inr (.inr (.inr (fun _ => none))))))) p l e R s m args below meth c (cells + 1) (slots + N) Q (pc + 3) L (.ref q :: st)) : V D A n (T, ad, f) p l e R s m args below meth c cells slots Q pc L (.int x :: st) := fun H locs ls hP hD hS hl => by
  subst hx
  refine va_newq C.1.1 C.1.2.1 C.1.2.2.2.1 (C.1.2.2.2.2 _ hcl) hao C.2.1 hP hD hS C.2.2.2.2.2.2.1 (N' := N) (nI_pos (by omega)) (nI_clamp (by omega)) (by omega) hcs.1 hcs.2 d (fun q cA H1 hK1 hP1 hD1 hS1 => ?_)
  have e : cA = D.2 4 := by
    obtain ⟨kA, comp, h1, h2, h3, h4⟩ := (hK1.2 3 (cA, .object RX0) rfl).2
    obtain ⟨kB, comp2, g1, g2, g3, g4⟩ := (C.2.1.2 2 (D.2 4, .object RX0) rfl).2
    exact Option.some.inj (h4.symm.trans g4)
  subst e
  rw [wS_new ht] at hP1 hD1
  exact kk q H1 locs ls hP1 hD1 hS1 hl
theorem qX3_12 (C : CX D A RX3 cc n ret tb p s m args meth c) (hmn : meth.name = "<init>") {t : Nat} {fs fs2 : List Value} {a : Nat} (ha : ad t = a) {x : Nat} (ht : t ∈ T) (hlen : fs.length = 12) (hfs : fs.set 7 (.ref x) = fs2) (d : decode cc pc = .ok (.putfield 12, 3)) (kk : V D A n (T, ad, va_up f t (.inr (3, fs2))) p l e R s m args below meth c cells slots Q (pc + 3) L st) : V D A n (T, ad, va_up f t (.inr (3, fs))) p l e R s m args below meth c cells slots Q pc L (.ref x :: .ref a :: st) := by
  subst hfs
  subst ha
  exact r_putfF C inU3 (ci := 3) rfl 7 (by decide) fl_RX3_12 rfl tyX3 tyX3_ok nmX3 rfl hmn rfl (ty := (.object "DiamondBook$Opinions")) (by decide +kernel) rfl rfl ht (va_up_self _ _ _) (by omega) (fun q => by rw [up_up]) d kk
theorem qX3_18 (C : CX D A RX3 cc n ret tb p s m args meth c) (hmn : meth.name = "<init>") {t : Nat} {fs fs2 : List Value} {a : Nat} (ha : ad t = a) {x : Int32} (ht : t ∈ T) (hlen : fs.length = 12) (hfs : fs.set 8 (.int x) = fs2) (d : decode cc pc = .ok (.putfield 18, 3)) (kk : V D A n (T, ad, va_up f t (.inr (3, fs2))) p l e R s m args below meth c cells slots Q (pc + 3) L st) : V D A n (T, ad, va_up f t (.inr (3, fs))) p l e R s m args below meth c cells slots Q pc L (.int x :: .ref a :: st) := by
  subst hfs
  subst ha
  exact r_putf C inU3 (ci := 3) rfl 8 (by decide) fl_RX3_18 rfl tyX3 tyX3_ok nmX3 rfl (ty := .int) (by decide +kernel) rfl rfl ht (va_up_self _ _ _) (by omega) (fun q => by rw [up_up]) d kk
theorem qX3_22 (C : CX D A RX3 cc n ret tb p s m args meth c) (hmn : meth.name = "<init>") {t : Nat} {fs fs2 : List Value} {a : Nat} (ha : ad t = a) {x : Int32} (ht : t ∈ T) (hlen : fs.length = 12) (hfs : fs.set 9 (.int x) = fs2) (d : decode cc pc = .ok (.putfield 22, 3)) (kk : V D A n (T, ad, va_up f t (.inr (3, fs2))) p l e R s m args below meth c cells slots Q (pc + 3) L st) : V D A n (T, ad, va_up f t (.inr (3, fs))) p l e R s m args below meth c cells slots Q pc L (.int x :: .ref a :: st) := by
  subst hfs
  subst ha
  exact r_putf C inU3 (ci := 3) rfl 9 (by decide) fl_RX3_22 rfl tyX3 tyX3_ok nmX3 rfl (ty := .int) (by decide +kernel) rfl rfl ht (va_up_self _ _ _) (by omega) (fun q => by rw [up_up]) d kk
theorem qX3_25 (C : CX D A RX3 cc n ret tb p s m args meth c) (hmn : meth.name = "<init>") {t : Nat} {fs fs2 : List Value} {a : Nat} (ha : ad t = a) {x : Int32} (ht : t ∈ T) (hlen : fs.length = 12) (hfs : fs.set 10 (.int x) = fs2) (d : decode cc pc = .ok (.putfield 25, 3)) (kk : V D A n (T, ad, va_up f t (.inr (3, fs2))) p l e R s m args below meth c cells slots Q (pc + 3) L st) : V D A n (T, ad, va_up f t (.inr (3, fs))) p l e R s m args below meth c cells slots Q pc L (.int x :: .ref a :: st) := by
  subst hfs
  subst ha
  exact r_putf C inU3 (ci := 3) rfl 10 (by decide) fl_RX3_25 rfl tyX3 tyX3_ok nmX3 rfl (ty := .int) (by decide +kernel) rfl rfl ht (va_up_self _ _ _) (by omega) (fun q => by rw [up_up]) d kk
theorem qX3_28 (C : CX D A RX3 cc n ret tb p s m args meth c) (hmn : meth.name = "<init>") {t : Nat} {fs fs2 : List Value} {a : Nat} (ha : ad t = a) {x : Int32} (ht : t ∈ T) (hlen : fs.length = 12) (hfs : fs.set 0 (.int x) = fs2) (d : decode cc pc = .ok (.putfield 28, 3)) (kk : V D A n (T, ad, va_up f t (.inr (3, fs2))) p l e R s m args below meth c cells slots Q (pc + 3) L st) : V D A n (T, ad, va_up f t (.inr (3, fs))) p l e R s m args below meth c cells slots Q pc L (.int x :: .ref a :: st) := by
  subst hfs
  subst ha
  exact r_putfF C inU3 (ci := 3) rfl 0 (by decide) fl_RX3_28 rfl tyX3 tyX3_ok nmX3 rfl hmn rfl (ty := .int) (by decide +kernel) rfl rfl ht (va_up_self _ _ _) (by omega) (fun q => by rw [up_up]) d kk
theorem qX3_31 (C : CX D A RX3 cc n ret tb p s m args meth c) (hmn : meth.name = "<init>") {t : Nat} {fs fs2 : List Value} {a : Nat} (ha : ad t = a) {x : Int32} (ht : t ∈ T) (hlen : fs.length = 12) (hfs : fs.set 1 (.int x) = fs2) (d : decode cc pc = .ok (.putfield 31, 3)) (kk : V D A n (T, ad, va_up f t (.inr (3, fs2))) p l e R s m args below meth c cells slots Q (pc + 3) L st) : V D A n (T, ad, va_up f t (.inr (3, fs))) p l e R s m args below meth c cells slots Q pc L (.int x :: .ref a :: st) := by
  subst hfs
  subst ha
  exact r_putfF C inU3 (ci := 3) rfl 1 (by decide) fl_RX3_31 rfl tyX3 tyX3_ok nmX3 rfl hmn rfl (ty := .int) (by decide +kernel) rfl rfl ht (va_up_self _ _ _) (by omega) (fun q => by rw [up_up]) d kk
theorem qX3_34 (C : CX D A RX3 cc n ret tb p s m args meth c) (hmn : meth.name = "<init>") {t : Nat} {fs fs2 : List Value} {a : Nat} (ha : ad t = a) {x : Int32} (ht : t ∈ T) (hlen : fs.length = 12) (hfs : fs.set 2 (.int x) = fs2) (d : decode cc pc = .ok (.putfield 34, 3)) (kk : V D A n (T, ad, va_up f t (.inr (3, fs2))) p l e R s m args below meth c cells slots Q (pc + 3) L st) : V D A n (T, ad, va_up f t (.inr (3, fs))) p l e R s m args below meth c cells slots Q pc L (.int x :: .ref a :: st) := by
  subst hfs
  subst ha
  exact r_putfF C inU3 (ci := 3) rfl 2 (by decide) fl_RX3_34 rfl tyX3 tyX3_ok nmX3 rfl hmn rfl (ty := .int) (by decide +kernel) rfl rfl ht (va_up_self _ _ _) (by omega) (fun q => by rw [up_up]) d kk
theorem qX3_37 (C : CX D A RX3 cc n ret tb p s m args meth c) (hmn : meth.name = "<init>") {t : Nat} {fs fs2 : List Value} {a : Nat} (ha : ad t = a) {x : Int32} (ht : t ∈ T) (hlen : fs.length = 12) (hfs : fs.set 3 (.int x) = fs2) (d : decode cc pc = .ok (.putfield 37, 3)) (kk : V D A n (T, ad, va_up f t (.inr (3, fs2))) p l e R s m args below meth c cells slots Q (pc + 3) L st) : V D A n (T, ad, va_up f t (.inr (3, fs))) p l e R s m args below meth c cells slots Q pc L (.int x :: .ref a :: st) := by
  subst hfs
  subst ha
  exact r_putfF C inU3 (ci := 3) rfl 3 (by decide) fl_RX3_37 rfl tyX3 tyX3_ok nmX3 rfl hmn rfl (ty := .int) (by decide +kernel) rfl rfl ht (va_up_self _ _ _) (by omega) (fun q => by rw [up_up]) d kk
theorem qX3_40 (C : CX D A RX3 cc n ret tb p s m args meth c) (hmn : meth.name = "<init>") {t : Nat} {fs fs2 : List Value} {a : Nat} (ha : ad t = a) {x : Int32} (ht : t ∈ T) (hlen : fs.length = 12) (hfs : fs.set 4 (.int x) = fs2) (d : decode cc pc = .ok (.putfield 40, 3)) (kk : V D A n (T, ad, va_up f t (.inr (3, fs2))) p l e R s m args below meth c cells slots Q (pc + 3) L st) : V D A n (T, ad, va_up f t (.inr (3, fs))) p l e R s m args below meth c cells slots Q pc L (.int x :: .ref a :: st) := by
  subst hfs
  subst ha
  exact r_putfF C inU3 (ci := 3) rfl 4 (by decide) fl_RX3_40 rfl tyX3 tyX3_ok nmX3 rfl hmn rfl (ty := .int) (by decide +kernel) rfl rfl ht (va_up_self _ _ _) (by omega) (fun q => by rw [up_up]) d kk
theorem qX3_43 (C : CX D A RX3 cc n ret tb p s m args meth c) (hmn : meth.name = "<init>") {t : Nat} {fs fs2 : List Value} {a : Nat} (ha : ad t = a) {x : Int32} (ht : t ∈ T) (hlen : fs.length = 12) (hfs : fs.set 5 (.int x) = fs2) (d : decode cc pc = .ok (.putfield 43, 3)) (kk : V D A n (T, ad, va_up f t (.inr (3, fs2))) p l e R s m args below meth c cells slots Q (pc + 3) L st) : V D A n (T, ad, va_up f t (.inr (3, fs))) p l e R s m args below meth c cells slots Q pc L (.int x :: .ref a :: st) := by
  subst hfs
  subst ha
  exact r_putfF C inU3 (ci := 3) rfl 5 (by decide) fl_RX3_43 rfl tyX3 tyX3_ok nmX3 rfl hmn rfl (ty := .int) (by decide +kernel) rfl rfl ht (va_up_self _ _ _) (by omega) (fun q => by rw [up_up]) d kk
theorem qX3_46 (C : CX D A RX3 cc n ret tb p s m args meth c) (hmn : meth.name = "<init>") {t : Nat} {fs fs2 : List Value} {a : Nat} (ha : ad t = a) {x : Int32} (ht : t ∈ T) (hlen : fs.length = 12) (hfs : fs.set 6 (.int x) = fs2) (d : decode cc pc = .ok (.putfield 46, 3)) (kk : V D A n (T, ad, va_up f t (.inr (3, fs2))) p l e R s m args below meth c cells slots Q (pc + 3) L st) : V D A n (T, ad, va_up f t (.inr (3, fs))) p l e R s m args below meth c cells slots Q pc L (.int x :: .ref a :: st) := by
  subst hfs
  subst ha
  exact r_putfF C inU3 (ci := 3) rfl 6 (by decide) fl_RX3_46 rfl tyX3 tyX3_ok nmX3 rfl hmn rfl (ty := .int) (by decide +kernel) rfl rfl ht (va_up_self _ _ _) (by omega) (fun q => by rw [up_up]) d kk
theorem qX0_12 (C : CX D A RX0 cc n ret tb p s m args meth c) (hmn : meth.name = "<init>") {t : Nat} {fs fs2 : List Value} {a : Nat} (ha : ad t = a) {x : Nat} (ht : t ∈ T) (hlen : fs.length = 9) (hfs : fs.set 6 (.ref x) = fs2) (d : decode cc pc = .ok (.putfield 12, 3)) (kk : V D A n (T, ad, va_up f t (.inr (0, fs2))) p l e R s m args below meth c cells slots Q (pc + 3) L st) : V D A n (T, ad, va_up f t (.inr (0, fs))) p l e R s m args below meth c cells slots Q pc L (.ref x :: .ref a :: st) := by
  subst hfs
  subst ha
  exact r_putfF C inU0 (ci := 0) rfl 6 (by decide) fl_RX0_12 rfl tyX0 tyX0_ok nmX0 rfl hmn rfl (ty := (.object "DiamondBook$Opinions")) (by decide +kernel) rfl rfl ht (va_up_self _ _ _) (by omega) (fun q => by rw [up_up]) d kk
theorem qX0_18 (C : CX D A RX0 cc n ret tb p s m args meth c) (hmn : meth.name = "<init>") {t : Nat} {fs fs2 : List Value} {a : Nat} (ha : ad t = a) {x : Int32} (ht : t ∈ T) (hlen : fs.length = 9) (hfs : fs.set 8 (.int x) = fs2) (d : decode cc pc = .ok (.putfield 18, 3)) (kk : V D A n (T, ad, va_up f t (.inr (0, fs2))) p l e R s m args below meth c cells slots Q (pc + 3) L st) : V D A n (T, ad, va_up f t (.inr (0, fs))) p l e R s m args below meth c cells slots Q pc L (.int x :: .ref a :: st) := by
  subst hfs
  subst ha
  exact r_putf C inU0 (ci := 0) rfl 8 (by decide) fl_RX0_18 rfl tyX0 tyX0_ok nmX0 rfl (ty := .int) (by decide +kernel) rfl rfl ht (va_up_self _ _ _) (by omega) (fun q => by rw [up_up]) d kk
theorem qX0_27 (C : CX D A RX0 cc n ret tb p s m args meth c) (hmn : meth.name = "<init>") {t : Nat} {fs fs2 : List Value} {a : Nat} (ha : ad t = a) {x : Int32} (ht : t ∈ T) (hlen : fs.length = 9) (hfs : fs.set 0 (.int x) = fs2) (d : decode cc pc = .ok (.putfield 27, 3)) (kk : V D A n (T, ad, va_up f t (.inr (0, fs2))) p l e R s m args below meth c cells slots Q (pc + 3) L st) : V D A n (T, ad, va_up f t (.inr (0, fs))) p l e R s m args below meth c cells slots Q pc L (.int x :: .ref a :: st) := by
  subst hfs
  subst ha
  exact r_putfF C inU0 (ci := 0) rfl 0 (by decide) fl_RX0_27 rfl tyX0 tyX0_ok nmX0 rfl hmn rfl (ty := .int) (by decide +kernel) rfl rfl ht (va_up_self _ _ _) (by omega) (fun q => by rw [up_up]) d kk
theorem qX0_33 (C : CX D A RX0 cc n ret tb p s m args meth c) (hmn : meth.name = "<init>") {t : Nat} {fs fs2 : List Value} {a : Nat} (ha : ad t = a) {x : Int32} (ht : t ∈ T) (hlen : fs.length = 9) (hfs : fs.set 1 (.int x) = fs2) (d : decode cc pc = .ok (.putfield 33, 3)) (kk : V D A n (T, ad, va_up f t (.inr (0, fs2))) p l e R s m args below meth c cells slots Q (pc + 3) L st) : V D A n (T, ad, va_up f t (.inr (0, fs))) p l e R s m args below meth c cells slots Q pc L (.int x :: .ref a :: st) := by
  subst hfs
  subst ha
  exact r_putfF C inU0 (ci := 0) rfl 1 (by decide) fl_RX0_33 rfl tyX0 tyX0_ok nmX0 rfl hmn rfl (ty := .int) (by decide +kernel) rfl rfl ht (va_up_self _ _ _) (by omega) (fun q => by rw [up_up]) d kk
theorem qX0_37 (C : CX D A RX0 cc n ret tb p s m args meth c) (hmn : meth.name = "<init>") {t : Nat} {fs fs2 : List Value} {a : Nat} (ha : ad t = a) {x : Int32} (ht : t ∈ T) (hlen : fs.length = 9) (hfs : fs.set 2 (.int x) = fs2) (d : decode cc pc = .ok (.putfield 37, 3)) (kk : V D A n (T, ad, va_up f t (.inr (0, fs2))) p l e R s m args below meth c cells slots Q (pc + 3) L st) : V D A n (T, ad, va_up f t (.inr (0, fs))) p l e R s m args below meth c cells slots Q pc L (.int x :: .ref a :: st) := by
  subst hfs
  subst ha
  exact r_putfF C inU0 (ci := 0) rfl 2 (by decide) fl_RX0_37 rfl tyX0 tyX0_ok nmX0 rfl hmn rfl (ty := .int) (by decide +kernel) rfl rfl ht (va_up_self _ _ _) (by omega) (fun q => by rw [up_up]) d kk
theorem qX0_43 (C : CX D A RX0 cc n ret tb p s m args meth c) (hmn : meth.name = "<init>") {t : Nat} {fs fs2 : List Value} {a : Nat} (ha : ad t = a) {x : Int32} (ht : t ∈ T) (hlen : fs.length = 9) (hfs : fs.set 3 (.int x) = fs2) (d : decode cc pc = .ok (.putfield 43, 3)) (kk : V D A n (T, ad, va_up f t (.inr (0, fs2))) p l e R s m args below meth c cells slots Q (pc + 3) L st) : V D A n (T, ad, va_up f t (.inr (0, fs))) p l e R s m args below meth c cells slots Q pc L (.int x :: .ref a :: st) := by
  subst hfs
  subst ha
  exact r_putfF C inU0 (ci := 0) rfl 3 (by decide) fl_RX0_43 rfl tyX0 tyX0_ok nmX0 rfl hmn rfl (ty := .int) (by decide +kernel) rfl rfl ht (va_up_self _ _ _) (by omega) (fun q => by rw [up_up]) d kk
theorem qX0_44 (C : CX D A RX0 cc n ret tb p s m args meth c) (hmn : meth.name = "<init>") {t : Nat} {fs fs2 : List Value} {a : Nat} (ha : ad t = a) {x : Int32} (ht : t ∈ T) (hlen : fs.length = 9) (hfs : fs.set 4 (.int x) = fs2) (d : decode cc pc = .ok (.putfield 44, 3)) (kk : V D A n (T, ad, va_up f t (.inr (0, fs2))) p l e R s m args below meth c cells slots Q (pc + 3) L st) : V D A n (T, ad, va_up f t (.inr (0, fs))) p l e R s m args below meth c cells slots Q pc L (.int x :: .ref a :: st) := by
  subst hfs
  subst ha
  exact r_putfF C inU0 (ci := 0) rfl 4 (by decide) fl_RX0_44 rfl tyX0 tyX0_ok nmX0 rfl hmn rfl (ty := .int) (by decide +kernel) rfl rfl ht (va_up_self _ _ _) (by omega) (fun q => by rw [up_up]) d kk
theorem qX0_47 (C : CX D A RX0 cc n ret tb p s m args meth c) (hmn : meth.name = "<init>") {t : Nat} {fs fs2 : List Value} {a : Nat} (ha : ad t = a) {x : Int32} (ht : t ∈ T) (hlen : fs.length = 9) (hfs : fs.set 5 (.int x) = fs2) (d : decode cc pc = .ok (.putfield 47, 3)) (kk : V D A n (T, ad, va_up f t (.inr (0, fs2))) p l e R s m args below meth c cells slots Q (pc + 3) L st) : V D A n (T, ad, va_up f t (.inr (0, fs))) p l e R s m args below meth c cells slots Q pc L (.int x :: .ref a :: st) := by
  subst hfs
  subst ha
  exact r_putfF C inU0 (ci := 0) rfl 5 (by decide) fl_RX0_47 rfl tyX0 tyX0_ok nmX0 rfl hmn rfl (ty := .int) (by decide +kernel) rfl rfl ht (va_up_self _ _ _) (by omega) (fun q => by rw [up_up]) d kk
theorem qX0_53 (C : CX D A RX0 cc n ret tb p s m args meth c) (hmn : meth.name = "<init>") {t : Nat} {fs fs2 : List Value} {a : Nat} (ha : ad t = a) {x : Int32} (ht : t ∈ T) (hlen : fs.length = 9) (hfs : fs.set 7 (.int x) = fs2) (d : decode cc pc = .ok (.putfield 53, 3)) (kk : V D A n (T, ad, va_up f t (.inr (0, fs2))) p l e R s m args below meth c cells slots Q (pc + 3) L st) : V D A n (T, ad, va_up f t (.inr (0, fs))) p l e R s m args below meth c cells slots Q pc L (.int x :: .ref a :: st) := by
  subst hfs
  subst ha
  exact r_putf C inU0 (ci := 0) rfl 7 (by decide) fl_RX0_53 rfl tyX0 tyX0_ok nmX0 rfl (ty := .int) (by decide +kernel) rfl rfl ht (va_up_self _ _ _) (by omega) (fun q => by rw [up_up]) d kk
theorem qX4_9 (C : CX D A RX4 cc n ret tb p s m args meth c) (hmn : meth.name = "<init>") {t : Nat} {fs fs2 : List Value} {a : Nat} (ha : ad t = a) {x : Nat} (ht : t ∈ T) (hlen : fs.length = 3) (hfs : fs.set 2 (.ref x) = fs2) (d : decode cc pc = .ok (.putfield 9, 3)) (kk : V D A n (T, ad, va_up f t (.inr (4, fs2))) p l e R s m args below meth c cells slots Q (pc + 3) L st) : V D A n (T, ad, va_up f t (.inr (4, fs))) p l e R s m args below meth c cells slots Q pc L (.ref x :: .ref a :: st) := by
  subst hfs
  subst ha
  exact r_putfF C inU4 (ci := 4) rfl 2 (by decide) fl_RX4_9 rfl tyX4 tyX4_ok nmX4 rfl hmn rfl (ty := (.array .int)) (by decide +kernel) rfl rfl ht (va_up_self _ _ _) (by omega) (fun q => by rw [up_up]) d kk
theorem qX2_9 (C : CX D A RX2 cc n ret tb p s m args meth c) (hmn : meth.name = "<init>") {t : Nat} {fs fs2 : List Value} {a : Nat} (ha : ad t = a) {x : Nat} (ht : t ∈ T) (hlen : fs.length = 1) (hfs : fs.set 0 (.ref x) = fs2) (d : decode cc pc = .ok (.putfield 9, 3)) (kk : V D A n (T, ad, va_up f t (.inr (2, fs2))) p l e R s m args below meth c cells slots Q (pc + 3) L st) : V D A n (T, ad, va_up f t (.inr (2, fs))) p l e R s m args below meth c cells slots Q pc L (.ref x :: .ref a :: st) := by
  subst hfs
  subst ha
  exact r_putfF C inU2 (ci := 2) rfl 0 (by decide) fl_RX2_9 rfl tyX2 tyX2_ok nmX2 rfl hmn rfl (ty := (.array .int)) (by decide +kernel) rfl rfl ht (va_up_self _ _ _) (by omega) (fun q => by rw [up_up]) d kk
theorem qX5_9 (C : CX D A RX5 cc n ret tb p s m args meth c) (hmn : meth.name = "<init>") {t : Nat} {fs fs2 : List Value} {a : Nat} (ha : ad t = a) {x : Nat} (ht : t ∈ T) (hlen : fs.length = 17) (hfs : fs.set 0 (.ref x) = fs2) (d : decode cc pc = .ok (.putfield 9, 3)) (kk : V D A n (T, ad, va_up f t (.inr (5, fs2))) p l e R s m args below meth c cells slots Q (pc + 3) L st) : V D A n (T, ad, va_up f t (.inr (5, fs))) p l e R s m args below meth c cells slots Q pc L (.ref x :: .ref a :: st) := by
  subst hfs
  subst ha
  exact r_putfF C inU5 (ci := 5) rfl 0 (by decide) fl_RX5_9 rfl tyX5 tyX5_ok nmX5 rfl hmn rfl (ty := (.array .int)) (by decide +kernel) rfl rfl ht (va_up_self _ _ _) (by omega) (fun q => by rw [up_up]) d kk
theorem qX5_15 (C : CX D A RX5 cc n ret tb p s m args meth c) (hmn : meth.name = "<init>") {t : Nat} {fs fs2 : List Value} {a : Nat} (ha : ad t = a) {x : Nat} (ht : t ∈ T) (hlen : fs.length = 17) (hfs : fs.set 2 (.ref x) = fs2) (d : decode cc pc = .ok (.putfield 15, 3)) (kk : V D A n (T, ad, va_up f t (.inr (5, fs2))) p l e R s m args below meth c cells slots Q (pc + 3) L st) : V D A n (T, ad, va_up f t (.inr (5, fs))) p l e R s m args below meth c cells slots Q pc L (.ref x :: .ref a :: st) := by
  subst hfs
  subst ha
  exact r_putfF C inU5 (ci := 5) rfl 2 (by decide) fl_RX5_15 rfl tyX5 tyX5_ok nmX5 rfl hmn rfl (ty := (.array (.object "DiamondBook$Rough"))) (by decide +kernel) rfl rfl ht (va_up_self _ _ _) (by omega) (fun q => by rw [up_up]) d kk
theorem qX5_19 (C : CX D A RX5 cc n ret tb p s m args meth c) (hmn : meth.name = "<init>") {t : Nat} {fs fs2 : List Value} {a : Nat} (ha : ad t = a) {x : Nat} (ht : t ∈ T) (hlen : fs.length = 17) (hfs : fs.set 4 (.ref x) = fs2) (d : decode cc pc = .ok (.putfield 19, 3)) (kk : V D A n (T, ad, va_up f t (.inr (5, fs2))) p l e R s m args below meth c cells slots Q (pc + 3) L st) : V D A n (T, ad, va_up f t (.inr (5, fs))) p l e R s m args below meth c cells slots Q pc L (.ref x :: .ref a :: st) := by
  subst hfs
  subst ha
  exact r_putfF C inU5 (ci := 5) rfl 4 (by decide) fl_RX5_19 rfl tyX5 tyX5_ok nmX5 rfl hmn rfl (ty := (.array .int)) (by decide +kernel) rfl rfl ht (va_up_self _ _ _) (by omega) (fun q => by rw [up_up]) d kk
theorem qX5_25 (C : CX D A RX5 cc n ret tb p s m args meth c) (hmn : meth.name = "<init>") {t : Nat} {fs fs2 : List Value} {a : Nat} (ha : ad t = a) {x : Nat} (ht : t ∈ T) (hlen : fs.length = 17) (hfs : fs.set 5 (.ref x) = fs2) (d : decode cc pc = .ok (.putfield 25, 3)) (kk : V D A n (T, ad, va_up f t (.inr (5, fs2))) p l e R s m args below meth c cells slots Q (pc + 3) L st) : V D A n (T, ad, va_up f t (.inr (5, fs))) p l e R s m args below meth c cells slots Q pc L (.ref x :: .ref a :: st) := by
  subst hfs
  subst ha
  exact r_putfF C inU5 (ci := 5) rfl 5 (by decide) fl_RX5_25 rfl tyX5 tyX5_ok nmX5 rfl hmn rfl (ty := (.object "DiamondBook$PriceBook")) (by decide +kernel) rfl rfl ht (va_up_self _ _ _) (by omega) (fun q => by rw [up_up]) d kk
theorem qX5_29 (C : CX D A RX5 cc n ret tb p s m args meth c) (hmn : meth.name = "<init>") {t : Nat} {fs fs2 : List Value} {a : Nat} (ha : ad t = a) {x : Nat} (ht : t ∈ T) (hlen : fs.length = 17) (hfs : fs.set 6 (.ref x) = fs2) (d : decode cc pc = .ok (.putfield 29, 3)) (kk : V D A n (T, ad, va_up f t (.inr (5, fs2))) p l e R s m args below meth c cells slots Q (pc + 3) L st) : V D A n (T, ad, va_up f t (.inr (5, fs))) p l e R s m args below meth c cells slots Q pc L (.ref x :: .ref a :: st) := by
  subst hfs
  subst ha
  exact r_putfF C inU5 (ci := 5) rfl 6 (by decide) fl_RX5_29 rfl tyX5 tyX5_ok nmX5 rfl hmn rfl (ty := (.array .int)) (by decide +kernel) rfl rfl ht (va_up_self _ _ _) (by omega) (fun q => by rw [up_up]) d kk
theorem qX5_32 (C : CX D A RX5 cc n ret tb p s m args meth c) (hmn : meth.name = "<init>") {t : Nat} {fs fs2 : List Value} {a : Nat} (ha : ad t = a) {x : Nat} (ht : t ∈ T) (hlen : fs.length = 17) (hfs : fs.set 7 (.ref x) = fs2) (d : decode cc pc = .ok (.putfield 32, 3)) (kk : V D A n (T, ad, va_up f t (.inr (5, fs2))) p l e R s m args below meth c cells slots Q (pc + 3) L st) : V D A n (T, ad, va_up f t (.inr (5, fs))) p l e R s m args below meth c cells slots Q pc L (.ref x :: .ref a :: st) := by
  subst hfs
  subst ha
  exact r_putfF C inU5 (ci := 5) rfl 7 (by decide) fl_RX5_32 rfl tyX5 tyX5_ok nmX5 rfl hmn rfl (ty := (.array .int)) (by decide +kernel) rfl rfl ht (va_up_self _ _ _) (by omega) (fun q => by rw [up_up]) d kk
theorem qX5_35 (C : CX D A RX5 cc n ret tb p s m args meth c) (hmn : meth.name = "<init>") {t : Nat} {fs fs2 : List Value} {a : Nat} (ha : ad t = a) {x : Nat} (ht : t ∈ T) (hlen : fs.length = 17) (hfs : fs.set 8 (.ref x) = fs2) (d : decode cc pc = .ok (.putfield 35, 3)) (kk : V D A n (T, ad, va_up f t (.inr (5, fs2))) p l e R s m args below meth c cells slots Q (pc + 3) L st) : V D A n (T, ad, va_up f t (.inr (5, fs))) p l e R s m args below meth c cells slots Q pc L (.ref x :: .ref a :: st) := by
  subst hfs
  subst ha
  exact r_putfF C inU5 (ci := 5) rfl 8 (by decide) fl_RX5_35 rfl tyX5 tyX5_ok nmX5 rfl hmn rfl (ty := (.array .int)) (by decide +kernel) rfl rfl ht (va_up_self _ _ _) (by omega) (fun q => by rw [up_up]) d kk
theorem qX5_41 (C : CX D A RX5 cc n ret tb p s m args meth c) (hmn : meth.name = "<init>") {t : Nat} {fs fs2 : List Value} {a : Nat} (ha : ad t = a) {x : Nat} (ht : t ∈ T) (hlen : fs.length = 17) (hfs : fs.set 10 (.ref x) = fs2) (d : decode cc pc = .ok (.putfield 41, 3)) (kk : V D A n (T, ad, va_up f t (.inr (5, fs2))) p l e R s m args below meth c cells slots Q (pc + 3) L st) : V D A n (T, ad, va_up f t (.inr (5, fs))) p l e R s m args below meth c cells slots Q pc L (.ref x :: .ref a :: st) := by
  subst hfs
  subst ha
  exact r_putfF C inU5 (ci := 5) rfl 10 (by decide) fl_RX5_41 rfl tyX5 tyX5_ok nmX5 rfl hmn rfl (ty := (.object "DiamondBook$Tender")) (by decide +kernel) rfl rfl ht (va_up_self _ _ _) (by omega) (fun q => by rw [up_up]) d kk
theorem qX5_47 (C : CX D A RX5 cc n ret tb p s m args meth c) (hmn : meth.name = "<init>") {t : Nat} {fs fs2 : List Value} {a : Nat} (ha : ad t = a) {x : Nat} (ht : t ∈ T) (hlen : fs.length = 17) (hfs : fs.set 11 (.ref x) = fs2) (d : decode cc pc = .ok (.putfield 47, 3)) (kk : V D A n (T, ad, va_up f t (.inr (5, fs2))) p l e R s m args below meth c cells slots Q (pc + 3) L st) : V D A n (T, ad, va_up f t (.inr (5, fs))) p l e R s m args below meth c cells slots Q pc L (.ref x :: .ref a :: st) := by
  subst hfs
  subst ha
  exact r_putfF C inU5 (ci := 5) rfl 11 (by decide) fl_RX5_47 rfl tyX5 tyX5_ok nmX5 rfl hmn rfl (ty := (.array (.object "DiamondBook$Gem"))) (by decide +kernel) rfl rfl ht (va_up_self _ _ _) (by omega) (fun q => by rw [up_up]) d kk
theorem qX5_51 (C : CX D A RX5 cc n ret tb p s m args meth c) (hmn : meth.name = "<init>") {t : Nat} {fs fs2 : List Value} {a : Nat} (ha : ad t = a) {x : Nat} (ht : t ∈ T) (hlen : fs.length = 17) (hfs : fs.set 14 (.ref x) = fs2) (d : decode cc pc = .ok (.putfield 51, 3)) (kk : V D A n (T, ad, va_up f t (.inr (5, fs2))) p l e R s m args below meth c cells slots Q (pc + 3) L st) : V D A n (T, ad, va_up f t (.inr (5, fs))) p l e R s m args below meth c cells slots Q pc L (.ref x :: .ref a :: st) := by
  subst hfs
  subst ha
  exact r_putfF C inU5 (ci := 5) rfl 14 (by decide) fl_RX5_51 rfl tyX5 tyX5_ok nmX5 rfl hmn rfl (ty := (.array .int)) (by decide +kernel) rfl rfl ht (va_up_self _ _ _) (by omega) (fun q => by rw [up_up]) d kk
theorem qX5_54 (C : CX D A RX5 cc n ret tb p s m args meth c) (hmn : meth.name = "<init>") {t : Nat} {fs fs2 : List Value} {a : Nat} (ha : ad t = a) {x : Nat} (ht : t ∈ T) (hlen : fs.length = 17) (hfs : fs.set 15 (.ref x) = fs2) (d : decode cc pc = .ok (.putfield 54, 3)) (kk : V D A n (T, ad, va_up f t (.inr (5, fs2))) p l e R s m args below meth c cells slots Q (pc + 3) L st) : V D A n (T, ad, va_up f t (.inr (5, fs))) p l e R s m args below meth c cells slots Q pc L (.ref x :: .ref a :: st) := by
  subst hfs
  subst ha
  exact r_putfF C inU5 (ci := 5) rfl 15 (by decide) fl_RX5_54 rfl tyX5 tyX5_ok nmX5 rfl hmn rfl (ty := (.array .int)) (by decide +kernel) rfl rfl ht (va_up_self _ _ _) (by omega) (fun q => by rw [up_up]) d kk
theorem qX5_57 (C : CX D A RX5 cc n ret tb p s m args meth c) (hmn : meth.name = "<init>") {t : Nat} {fs fs2 : List Value} {a : Nat} (ha : ad t = a) {x : Nat} (ht : t ∈ T) (hlen : fs.length = 17) (hfs : fs.set 16 (.ref x) = fs2) (d : decode cc pc = .ok (.putfield 57, 3)) (kk : V D A n (T, ad, va_up f t (.inr (5, fs2))) p l e R s m args below meth c cells slots Q (pc + 3) L st) : V D A n (T, ad, va_up f t (.inr (5, fs))) p l e R s m args below meth c cells slots Q pc L (.ref x :: .ref a :: st) := by
  subst hfs
  subst ha
  exact r_putfF C inU5 (ci := 5) rfl 16 (by decide) fl_RX5_57 rfl tyX5 tyX5_ok nmX5 rfl hmn rfl (ty := (.array .int)) (by decide +kernel) rfl rfl ht (va_up_self _ _ _) (by omega) (fun q => by rw [up_up]) d kk
end NROWS

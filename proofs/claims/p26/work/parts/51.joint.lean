/-! ===== two worlds side by side: a method of one leaves the other as it was ===== -/
abbrev jS (S1 S2 : St) : St := (S1.1.map (fun k => 2 * k) ++ S2.1.map (fun k => 2 * k + 1), (fun k => if k % 2 = 0 then S1.2.1 (k / 2) else S2.2.1 (k / 2)), fun k => if k % 2 = 0 then S1.2.2 (k / 2) else S2.2.2 (k / 2))
theorem jw (S1 S2 : St) : wS (jS S1 S2) = wS S1 ++ wS S2 := by
  unfold wS
  rw [List.map_append, List.map_map, List.map_map]
  congr 1
  · refine List.map_congr_left (fun k _ => ?_)
    show ((if (2 * k) % 2 = 0 then S1.2.1 (2 * k / 2) else S2.2.1 (2 * k / 2)), if (2 * k) % 2 = 0 then S1.2.2 (2 * k / 2) else S2.2.2 (2 * k / 2)) = _
    rw [if_pos (by omega), if_pos (by omega), show 2 * k / 2 = k by omega]
  · refine List.map_congr_left (fun k _ => ?_)
    show ((if (2 * k + 1) % 2 = 0 then S1.2.1 ((2 * k + 1) / 2) else S2.2.1 ((2 * k + 1) / 2)), if (2 * k + 1) % 2 = 0 then S1.2.2 ((2 * k + 1) / 2) else S2.2.2 ((2 * k + 1) / 2)) = _
    rw [if_neg (by omega), if_neg (by omega), show (2 * k + 1) / 2 = k by omega]
def apt (a b : va_W) : Prop := ∀ (i j : Nat) (p q : Nat × va_E), a[i]? = some p → b[j]? = some q → p.1 ≠ q.1
theorem ja_l {a b : va_W} {k : Nat} {q : Nat × va_E} (h : a[k]? = some q) : (a ++ b)[k]? = some q := by
  rw [List.getElem?_append_left (List.getElem?_eq_some_iff.mp h).1]; exact h
theorem ja_r {a b : va_W} {k : Nat} {q : Nat × va_E} (h : b[k]? = some q) : (a ++ b)[a.length + k]? = some q := by
  rw [List.getElem?_append_right (by omega), Nat.add_sub_cancel_left]; exact h
theorem jP_l {D : va_G} {cl : List vw_C} {a b : va_W} {H : Heap} (h : va_P D cl (a ++ b) H) : va_P D cl a H := fun k q hk => h k q (ja_l hk)
theorem jP_r {D : va_G} {cl : List vw_C} {a b : va_W} {H : Heap} (h : va_P D cl (a ++ b) H) : va_P D cl b H := fun k q hk => h _ q (ja_r hk)
theorem jD_l {A : Nat → Prop} {a b : va_W} (h : va_D A (a ++ b)) : va_D A a := ⟨fun i j p q hi hj e => h.1 i j p q (ja_l hi) (ja_l hj) e, fun k q hk => h.2 k q (ja_l hk)⟩
theorem jD_r {A : Nat → Prop} {a b : va_W} (h : va_D A (a ++ b)) : va_D A b := ⟨fun i j p q hi hj e => by have := h.1 _ _ p q (ja_r (a := a) hi) (ja_r (a := a) hj) e; omega, fun k q hk => h.2 _ q (ja_r hk)⟩
theorem jD_x {A : Nat → Prop} {a b : va_W} (h : va_D A (a ++ b)) : apt a b := fun i j p q hi hj e => by
  have := h.1 _ _ p q (ja_l (b := b) hi) (ja_r (a := a) hj) e
  have := (List.getElem?_eq_some_iff.mp hi).1
  omega
theorem apt.s {a b : va_W} (h : apt a b) : apt b a := fun i j p q hi hj e => h j i q p hj hi e.symm
theorem apt_app {a b c : va_W} (h1 : apt a b) (h2 : apt a c) : apt a (b ++ c) := fun i j p q hi hj => by
  rcases List.mem_append.mp (List.mem_of_getElem? hj) with h | h
  · obtain ⟨k, hk⟩ := List.getElem?_of_mem h
    exact h1 i k p q hi hk
  · obtain ⟨k, hk⟩ := List.getElem?_of_mem h
    exact h2 i k p q hi hk
theorem jD_sw {A : Nat → Prop} {a b c : va_W} (h : va_D A (a ++ (b ++ c))) : va_D A (b ++ (a ++ c)) := by
  have hbc := jD_r h
  have hx := jD_x h
  have xab : apt a b := fun i j p q hi hj => hx i j p q hi (ja_l hj)
  have xac : apt a c := fun i j p q hi hj => hx i _ p q hi (ja_r hj)
  exact va_D.app (jD_l hbc) (va_D.app (jD_l h) (jD_r hbc) xac) (apt_app xab.s (jD_x hbc))
theorem jP_sw {D : va_G} {cl : List vw_C} {a b c : va_W} {H : Heap} (h : va_P D cl (a ++ (b ++ c)) H) : va_P D cl (b ++ (a ++ c)) H := va_P.app (jP_l (jP_r h)) (va_P.app (jP_l h) (jP_r (jP_r h)))
theorem jn {D : va_G} {cl : List vw_C} {A : Nat → Prop} {S1 : St} {b w1 : va_W} {H H1 : Heap} (hP : va_P D cl (wS S1 ++ b) H) (hD : va_D A (wS S1 ++ b)) (hA : ∀ q, wA S1 H.size q → A q) (hk : ∀ q : Nat, q < H.size → ¬ wA S1 H.size q → H1[q]? = H[q]?) (hP1 : va_P D cl w1 H1) (hD1 : va_D (wA S1 H.size) w1) : va_P D cl (w1 ++ b) H1 ∧ va_D A (w1 ++ b) := by
  have apart : ∀ (k : Nat) (q : Nat × va_E), b[k]? = some q → q.1 < H.size ∧ ¬ wA S1 H.size q.1 := by
    intro k q hq
    have hl := (hP _ q (ja_r hq)).lt
    refine ⟨hl, fun h => ?_⟩
    rcases h with ⟨t, ht, h⟩ | h
    · obtain ⟨i, hi⟩ := List.getElem?_of_mem (List.mem_map.mpr ⟨t, ht, rfl⟩ : (S1.2.1 t, S1.2.2 t) ∈ wS S1)
      exact jD_x hD i k _ q hi hq h.symm
    · omega
  refine ⟨va_P.app hP1 (fun k q hq => ?_), va_D.app (hD1.weaken (fun k q _ h => hA q.1 h)) (jD_r hD) (fun i j x y hx hy hxy => ?_)⟩
  · obtain ⟨g1, g2⟩ := apart k q hq
    exact (hP _ q (ja_r hq)).kept (hk q.1 g1 g2)
  · exact (apart j y hy).2 (by rw [← hxy]; exact hD1.2 i x hx)
section JROWS
variable {D : Gt} {A : Nat → Prop} {own : String} {cc : ByteArray} {n : Nat} {ret : Option FieldType} {tb : List ExceptionTableEntry} {p : Program} {l : Launch} {e : Env} {R : Room} {s : State} {m : MethodId} {args : Array Value} {below : List Frame} {meth : Method} {c : Code} {cells slots : Nat} {Q : State → Prop} {pc : Nat} {L : List (Option Value)} {st : List Value} {S S1 S2 S3 : St}
theorem r_eq (h : wS S = wS S1) (kk : V D A n S1 p l e R s m args below meth c cells slots Q pc L st) : V D A n S p l e R s m args below meth c cells slots Q pc L st := fun H locs ls hP hD hS hl => kk H locs ls (h ▸ hP) (h ▸ hD) hS hl
theorem r_sw (kk : V D A n (jS S2 (jS S1 S3)) p l e R s m args below meth c cells slots Q pc L st) : V D A n (jS S1 (jS S2 S3)) p l e R s m args below meth c cells slots Q pc L st := fun H locs ls hP hD hS hl => kk H locs ls (by rw [jw, jw] at hP ⊢; exact jP_sw hP) (by rw [jw, jw] at hD ⊢; exact jD_sw hD) hS hl
theorem r_callW1 (C : CX D A own cc n ret tb p s m args meth c) (hN : NC s) {y : MethodName} {cc' : ByteArray} {n' na index : Nat} {ret' : Option FieldType} {hh : List (Nat × Nat × Nat × Nat)} {rm : Room} {mc ms : Nat} {post : Int32 → St → Prop} {As st0 : List Value} (hM : KW D l y (uwsW y cc' n' ret' hh) rm As S1 post mc ms) (hl2 : Cond.methodLink own index y ∈ UW) (hi : Cond.static y ∈ UW) (hini : Cond.initialized y.cls ∈ UW) (hcd : Cond.codeWith y cc' n' ret' hh ∈ UW) (hd : y.cls ≠ "java/lang/invoke/MethodHandle" ∧ y.cls ≠ "java/lang/invoke/VarHandle" ∧ (parseMethodDescriptor y.desc).map (fun d => d.parameters.length) = some na) (hst : st0 = As.reverse ++ st) (hna : As.length = na) (hcat : (st.map fun v => v.category).sum ≤ 8) (hrm : rm.cells = mc ∧ rm.slots = ms) (hR : rm.frames + 1 ≤ R.frames ∧ 8 + (n' + 11) + rm.locals ≤ R.locals) (hf : cells + mc ≤ R.cells ∧ slots + ms ≤ R.slots) (d : decode cc pc = .ok (.invokestatic index, 3)) (kk : ∀ (r : Int32) (S0 : St), post r S0 → V D A n (jS S0 S2) p l e R s m args below meth c (cells + mc) (slots + ms) Q (pc + 3) L (.int r :: st)) : V D A n (jS S1 S2) p l e R s m args below meth c cells slots Q pc L st0 := fun H locs ls hP hD hS hl => by
  rw [jw] at hP hD
  have hP1 := jP_l hP
  have hD1 := jD_l hD
  refine vx_calli (vx_runSX C.1 (hM H.size) ⟨⟨hrm.1, hrm.2, hR.1, hR.2, pay_in C.1.2.2.2.2 (uwsW_in hcd), List.mem_cons_self⟩, C.1.2.2.2.2 _ hcd, C.1.2.2.2.2 _ hini, ⟨hd.1, hd.2.1⟩, (fun sig h => by have h2 := hd.2.2; rw [h] at h2; exact (Option.some.inj h2).symm), C.1.2.2.2.2 _ hl2, C.1.2.2.2.2 _ hi⟩ (preN_of C hN hP1 hD1 hS) rfl hna hl.1.1 hst (lv_room hcat) d hf) hS (fun q _ hq => wA_sub C.2.2.2.2.2.2.1 hD1 hS q hq) (fun q hq => wA_sub C.2.2.2.2.2.2.1 hD1 hS q hq) (fun q _ hq => wA_sub C.2.2.2.2.2.2.1 hD1 hS q hq) (fun E ce q9 u t H1 locs1 ht _ _ hx hz hk hS1 h1 h2 h3 => hx.1.elim) (fun r u t H1 locs1 ht _ hp hb hz hk hS1 => ?_)
  have hb1 := hb.1
  rw [ht] at hb1
  obtain ⟨z1, z2⟩ := jn hP hD (wA_sub C.2.2.2.2.2.2.1 hD1 hS) hk hb1 hb.2
  exact kk r u hp H1 locs1 ls (by rw [jw]; exact z1) (by rw [jw]; exact z2) hS1 hl
theorem r_callW2 (C : CX D A own cc n ret tb p s m args meth c) (hN : NC s) {y : MethodName} {cc' : ByteArray} {n' na index : Nat} {ret' : Option FieldType} {hh : List (Nat × Nat × Nat × Nat)} {rm : Room} {mc ms : Nat} {post : Int32 → St → Prop} {As st0 : List Value} (hM : KW D l y (uwsW y cc' n' ret' hh) rm As S2 post mc ms) (hl2 : Cond.methodLink own index y ∈ UW) (hi : Cond.static y ∈ UW) (hini : Cond.initialized y.cls ∈ UW) (hcd : Cond.codeWith y cc' n' ret' hh ∈ UW) (hd : y.cls ≠ "java/lang/invoke/MethodHandle" ∧ y.cls ≠ "java/lang/invoke/VarHandle" ∧ (parseMethodDescriptor y.desc).map (fun d => d.parameters.length) = some na) (hst : st0 = As.reverse ++ st) (hna : As.length = na) (hcat : (st.map fun v => v.category).sum ≤ 8) (hrm : rm.cells = mc ∧ rm.slots = ms) (hR : rm.frames + 1 ≤ R.frames ∧ 8 + (n' + 11) + rm.locals ≤ R.locals) (hf : cells + mc ≤ R.cells ∧ slots + ms ≤ R.slots) (d : decode cc pc = .ok (.invokestatic index, 3)) (kk : ∀ (r : Int32) (S0 : St), post r S0 → V D A n (jS S1 (jS S0 S3)) p l e R s m args below meth c (cells + mc) (slots + ms) Q (pc + 3) L (.int r :: st)) : V D A n (jS S1 (jS S2 S3)) p l e R s m args below meth c cells slots Q pc L st0 := r_sw (r_callW1 C hN hM hl2 hi hini hcd hd hst hna hcat hrm hR hf d (fun r S0 h => r_sw (kk r S0 h)))
theorem r_callN (C : CX D A own cc n ret tb p s m args meth c) (hN : NC s) {y : MethodName} {cc' : ByteArray} {n' na index : Nat} {ret' : Option FieldType} {rm : Room} {mc ms : Nat} {post : Int32 → St → Prop} {As st0 : List Value} (hM : KW D l y (uws y cc' n' ret') rm As S post mc ms) (hl2 : Cond.methodLink own index y ∈ UW) (hi : Cond.static y ∈ UW) (hini : Cond.initialized y.cls ∈ UW) (hcd : Cond.code y cc' n' ret' ∈ UW) (hd : y.cls ≠ "java/lang/invoke/MethodHandle" ∧ y.cls ≠ "java/lang/invoke/VarHandle" ∧ (parseMethodDescriptor y.desc).map (fun d => d.parameters.length) = some na) (hst : st0 = As.reverse ++ st) (hna : As.length = na) (hcat : (st.map fun v => v.category).sum ≤ 8) (hrm : rm.cells = mc ∧ rm.slots = ms) (hR : rm.frames + 1 ≤ R.frames ∧ 8 + (n' + 11) + rm.locals ≤ R.locals) (hf : cells + mc ≤ R.cells ∧ slots + ms ≤ R.slots) (d : decode cc pc = .ok (.invokestatic index, 3)) (kk : ∀ (r : Int32) (S0 : St), post r S0 → V D A n S0 p l e R s m args below meth c (cells + mc) (slots + ms) Q (pc + 3) L (.int r :: st)) : V D A n S p l e R s m args below meth c cells slots Q pc L st0 := fun H locs ls hP hD hS hl =>
  vx_calli (vx_runS C.1 (hM H.size) ⟨words_of C hl2 hini hcd hd hrm.1 hrm.2 hR, C.1.2.2.2.2 _ hi⟩ (preN_of C hN hP hD hS) rfl hna hl.1.1 hst (lv_room hcat) d hf) hS (fun q _ hq => wA_sub C.2.2.2.2.2.2.1 hD hS q hq) (fun q hq => wA_sub C.2.2.2.2.2.2.1 hD hS q hq) (fun q _ hq => wA_sub C.2.2.2.2.2.2.1 hD hS q hq) (fun E ce q9 u t H1 locs1 ht _ _ hx hz hk hS1 h1 h2 h3 => hx.1.elim) (fun r u t H1 locs1 ht _ hp hb hz hk hS1 => kk r u hp H1 locs1 ls (by have hq := hb.1; rw [ht] at hq; exact hq) (hb.2.weaken (fun _ q _ hq => wA_sub C.2.2.2.2.2.2.1 hD hS _ hq)) hS1 hl)
theorem KN_of {y : MethodName} {rm : Room} {As : List Value} {post : Int32 → St → Prop} {mc ms : Nat} {L0 : List (Option Value)} (hy : plainName y.cls = true) (hown : y.cls = own) (hc : ∀ v ∈ As, v.category = 1) (hn : As.length ≤ n) (hL : As.map some ++ List.replicate (n - As.length) none = L0) (body : ∀ (p : Program) (e : Env) (s : State) (m : MethodId) (args : Array Value) (below : List Frame) (meth : Method) (c : Code) (A : Nat → Prop), CX D A own cc n ret [] p s m args meth c → NC s → V D A n S p l e rm s m args below meth c 0 0 (vx_MQ below (va_Qi post (PoB D A) A) (XCs D S A nX) args s mc ms A) 0 L0 []) : KW D l y (uws y cc n ret) rm As S post mc ms := fun sz => by
  subst hown
  subst hL
  refine vx_ofW (cc := cc) (maxL := n) (ret := ret) hy rfl ?_
  intro p e s m args below meth c s₁ B hml htab hv
  obtain ⟨rfl, ⟨hsz, hP, hD, hK, hE, hZ⟩, hNC⟩ := hv
  have hts := atoms_spec (ws := uws y cc n ret) B.pre
  have htb : c.exceptionTable.toList = [] := List.eq_nil_iff_forall_not_mem.mpr (fun x hx => htab x hx)
  have C : CX D (wA S sz) y.cls cc n ret [] p s m As.toArray meth c := ⟨⟨B.exec, B.bytes, hml, findClass_of_methodNamed B.named, fun w hw => hts w (List.mem_cons_of_mem _ hw)⟩, hK, hE, hZ, B.returns, B.notSynchronized, fun q hq => Or.inr (by rw [← hsz]; exact hq), htb⟩
  have hV := body p e s m As.toArray below meth c (wA S sz) C hNC
  rw [lg_entry_eq]
  refine hV s.heap [] _ hP (hD.weaken (fun k q hk _ => ?_)) va_S.rf (lL_entry hc hn)
  obtain ⟨t, ht, e⟩ := List.mem_map.mp (List.mem_of_getElem? hk)
  exact Or.inl ⟨t, ht, by rw [← e]⟩
abbrev oX (D : Gt) (a N : Nat) (h : Nat → Int32) : St := ([0], (fun _ => a), fun _ => .inl (D.2 0, N, .inl h))
theorem r_old (C : CX D A own cc n ret tb p s m args meth c) {a N k : Nat} {h : Nat → Int32} {x : Int32} (hx : x = nI k) (hk : k < N) (hN : N < 2 ^ 31) (d : decode cc pc = .ok (.iaload, 1)) (kk : V D A n (jS S1 (jS S2 (oX D a N h))) p l e R s m args below meth c cells slots Q (pc + 1) L (.int (h k) :: st)) : V D A n (jS S1 (jS S2 (oX D a N h))) p l e R s m args below meth c cells slots Q pc L (.int x :: .ref a :: st) := by
  refine r_iald (f := (jS S1 (jS S2 (oX D a N h))).2.2) (ad := (jS S1 (jS S2 (oX D a N h))).2.1) (t := 3) C ?_ rfl hx hk hN d kk
  refine List.mem_append_right _ (List.mem_map.mpr ⟨1, List.mem_append_right _ (List.mem_map.mpr ⟨0, List.mem_cons_self, rfl⟩), rfl⟩)
theorem r_ost (C : CX D A own cc n ret tb p s m args meth c) {a N k : Nat} {h : Nat → Int32} {x y : Int32} (hx : x = nI k) (hk : k < N) (hN : N < 2 ^ 31) (d : decode cc pc = .ok (.iastore, 1)) (kk : V D A n (jS S1 (jS S2 (oX D a N (upd h k y)))) p l e R s m args below meth c cells slots Q (pc + 1) L st) : V D A n (jS S1 (jS S2 (oX D a N h))) p l e R s m args below meth c cells slots Q pc L (.int y :: .int x :: .ref a :: st) := by
  refine r_iast (f := (jS S1 (jS S2 (oX D a N h))).2.2) (ad := (jS S1 (jS S2 (oX D a N h))).2.1) (t := 3) (g := va_up (jS S1 (jS S2 (oX D a N h))).2.2 3 (.inl (D.2 0, N, .inl (upd h k y)))) C ?_ rfl hx hk hN (fun _ => rfl) d (r_eq (S1 := jS S1 (jS S2 (oX D a N (upd h k y)))) ?_ kk)
  · exact List.mem_append_right _ (List.mem_map.mpr ⟨1, List.mem_append_right _ (List.mem_map.mpr ⟨0, List.mem_cons_self, rfl⟩), rfl⟩)
  · refine wS_cg (fun _ _ => rfl) (fun q hq => ?_)
    by_cases e : q = 3
    · subst e
      rw [va_up_self]
      rfl
    · rw [va_up_ne _ _ e]
      show (if q % 2 = 0 then _ else (if q / 2 % 2 = 0 then _ else _)) = (if q % 2 = 0 then _ else (if q / 2 % 2 = 0 then _ else _))
      by_cases h1 : q % 2 = 0
      · rw [if_pos h1, if_pos h1]
      · rw [if_neg h1, if_neg h1]
        by_cases h2 : q / 2 % 2 = 0
        · rw [if_pos h2, if_pos h2]
        · exfalso
          rcases List.mem_append.mp hq with g | g
          · obtain ⟨z, -, rfl⟩ := List.mem_map.mp g; omega
          · obtain ⟨z, hz, rfl⟩ := List.mem_map.mp g
            rcases List.mem_append.mp hz with g | g
            · obtain ⟨y, -, rfl⟩ := List.mem_map.mp g; omega
            · obtain ⟨y, hy, rfl⟩ := List.mem_map.mp g
              have := List.mem_singleton.mp hy
              subst this
              exact e rfl
end JROWS

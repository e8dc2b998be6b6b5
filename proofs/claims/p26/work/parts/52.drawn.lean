/-! ===== the law's own numbers: what is drawn, a set turned ===== -/
theorem or_N (a b : Nat) : nI a ||| nI b = nI (a ||| b) := by
  apply Int32.toBitVec.inj
  simp [nI, Int32.toBitVec_or]
theorem sh_h2 (k : Nat) (hk : k < 12) : ((nI k &&& 31 : Int32).toBitVec.smod 32).toNat = k := by
  have : ∀ k, k < 12 → ((nI k &&& 31 : Int32).toBitVec.smod 32).toNat = k := by decide +kernel
  exact this k hk
def rvN (F : Nat) : Nat → Nat
  | 0 => 0
  | k + 1 => rvN F k ||| F / 2 ^ k % 2 * 2 ^ (11 - k)
def dV (Ls : Nat) (xs : Nat → Int32) (k : Nat) : Int32 := (if k < Ls then xs k else 14713 * nI k + 11257) &&& 1073741823
def E0 : St := ([], (fun _ => 0), fun _ => .inr (0, []))
def PreX (D : Gt) (b Ls : Nat) (xs : Nat → Int32) (sz : Nat) (U : State) : Prop := PreB D E0 sz U ∧ va_X b Ls xs U U.heap ∧ b < sz
theorem E0_P {D : va_G} {cl : List vw_C} {H : Heap} : va_P D cl (wS E0) H := fun k q h => by simp [wS, E0] at h
theorem E0_D {A : Nat → Prop} : va_D A (wS E0) := ⟨fun i j p q h => by simp [wS, E0] at h, fun k q h => by simp [wS, E0] at h⟩
theorem dV_30 (Ls : Nat) (xs : Nat → Int32) (k : Nat) : ∃ Z : Nat, Z < 2 ^ 30 ∧ dV Ls xs k = nI Z := pk_andE _ 30 (by decide)
set_option maxRecDepth 100000 in
set_option maxHeartbeats 4000000 in
theorem c_L_turned (l : Launch) (D : Gt) (S : St) {F : Nat} (hF : F < 2 ^ 31) : KI D l yL_turned (uws yL_turned cL_turned 3 (some .int)) (RM 1 0 0) [.int (nI F)] S (fun r S1 => r = nI (rvN F 12) ∧ S1 = S) (nX) 0 0 := by
  refine KI_of (own := RL) (L0 := [some (.int (nI F)), none, none]) (by decide +kernel) rfl (catc rfl cat0) (Nat.le_of_ble_eq_true rfl) rfl ?_
  intro p e s m args below meth c A hnm C
  have loop : ∀ (z k : Nat), k ≤ 12 → 12 < k + z → V D A 3 S p l e (RM 1 0 0) s m args below meth c 0 0 (vx_MQ below (va_Qi (fun r S1 => r = nI (rvN F 12) ∧ S1 = S) (PoB D A) A) (XCs D S A nX) args s 0 0 A) 4 [some (.int (nI F)), some (.int (nI (rvN F k))), some (.int (nI k))] [] := by
    intro z
    induction z with
    | zero => intro k h1 h2; omega
    | succ z ih =>
      intro k h1 h2
      have hk : nI k + 1 = nI (k + 1) := nI_1 k
      refine r_iload2 (pc := 4) C dL_turned_4 ?_
      refine r_bipush (pc := 5) C (v := nI 12) dL_turned_5 (by decide) ?_
      refine r_icmp_geN (pc := 7) C (tgt := 29) dL_turned_7 (by decide) (by omega) (by omega) (fun c_7 => ?_) (fun c_7 => ?_)
      · refine r_iload1 (pc := 29) C dL_turned_29 ?_
        exact r_iret C rfl dL_turned_30 (⟨by rw [show k = 12 by omega], rfl⟩) (by decide) (by decide)
      · refine r_iload1 (pc := 10) C dL_turned_10 ?_
        refine r_iload0 (pc := 11) C dL_turned_11 ?_
        refine r_iload2 (pc := 12) C dL_turned_12 ?_
        refine r_ishr (pc := 13) C dL_turned_13 ?_
        rw [pk_shrN hF _ k (sh_h2 k (by omega))]
        refine r_iconst (pc := 14) C (v := 1) dL_turned_14 (by decide) ?_
        refine r_iand (pc := 15) C dL_turned_15 ?_
        rw [pk_andN (m := 1) (k := 1) (by have := Nat.div_le_self F (2 ^ k); omega) (by decide)]
        refine r_bipush (pc := 16) C (v := nI 11) dL_turned_16 (by decide) ?_
        refine r_iload2 (pc := 18) C dL_turned_18 ?_
        refine r_isub (pc := 19) C dL_turned_19 ?_
        rw [pk_sub (a := 11) (b := k) (by omega)]
        refine r_ishl (pc := 20) C dL_turned_20 ?_
        rw [pk_shlN _ (11 - k) (sh_h2 (11 - k) (by omega)) (by
          have h1 : F / 2 ^ k % 2 ^ 1 < 2 := Nat.mod_lt _ (by decide)
          have h2 : 2 ^ (11 - k) ≤ 2 ^ 11 := Nat.pow_le_pow_right (by decide) (by omega)
          calc _ ≤ 1 * 2 ^ 11 := Nat.mul_le_mul (by omega) h2
            _ < _ := by decide)]
        refine r_ior (pc := 21) C dL_turned_21 ?_
        rw [or_N, show rvN F k ||| F / 2 ^ k % 2 ^ 1 * 2 ^ (11 - k) = rvN F (k + 1) from rfl]
        refine r_istore1 (pc := 22) C dL_turned_22 ?_
        refine r_iinc2 (pc := 23) C dL_turned_23 hk ?_
        refine r_goto (pc := 26) C (tgt := 4) dL_turned_26 (by decide) ?_
        exact ih (k + 1) (by omega) (by omega)
  refine r_iconst (pc := 0) C (v := nI 0) dL_turned_0 (by decide) ?_
  refine r_istore1 (pc := 1) C dL_turned_1 ?_
  refine r_iconst (pc := 2) C (v := nI 0) dL_turned_2 (by decide) ?_
  refine r_istore2 (pc := 3) C dL_turned_3 ?_
  exact loop 13 0 (by omega) (by omega)

section DROWS
variable {D : Gt} {A : Nat → Prop} {own : String} {cc : ByteArray} {n : Nat} {ret : Option FieldType} {tb : List ExceptionTableEntry} {p : Program} {l : Launch} {e : Env} {R : Room} {s : State} {m : MethodId} {args : Array Value} {below : List Frame} {meth : Method} {c : Code} {cells slots : Nat} {Q : State → Prop} {pc : Nat} {L : List (Option Value)} {st : List Value} {S S1 S2 S3 : St} {b Ls : Nat} {xs : Nat → Int32}
theorem r_sld (C : CX D A own cc n ret tb p s m args meth c) (hX : va_X b Ls xs s s.heap) (hbl : b < s.heap.size) (hbA : ¬ A b) {k : Nat} {x : Int32} (hx : x = nI k) (hk : k < Ls) (hL : Ls ≤ 3072) (d : decode cc pc = .ok (.iaload, 1)) (kk : V D A n S p l e R s m args below meth c cells slots Q (pc + 1) L (.int (xs k) :: st)) : V D A n S p l e R s m args below meth c cells slots Q pc L (.int x :: .ref b :: st) := fun H locs ls hP hD hS hl => by
  subst hx
  refine va_sld C.1.1 C.1.2.1 hX hbl hbA hS (vp_in_nI hk (by omega)) d ?_
  rw [nI_clamp (by omega)]
  exact kk H locs ls hP hD hS hl
theorem r_slen (C : CX D A own cc n ret tb p s m args meth c) (hX : va_X b Ls xs s s.heap) (hbl : b < s.heap.size) (hbA : ¬ A b) (d : decode cc pc = .ok (.arraylength, 1)) (kk : V D A n S p l e R s m args below meth c cells slots Q (pc + 1) L (.int (nI Ls) :: st)) : V D A n S p l e R s m args below meth c cells slots Q pc L (.ref b :: st) := fun H locs ls hP hD hS hl => va_slen C.1.1 C.1.2.1 hX hbl hbA hS d (kk H locs ls hP hD hS hl)
end DROWS
set_option maxRecDepth 100000 in
set_option maxHeartbeats 4000000 in
theorem c_L_drawn (l : Launch) (D : Gt) (b Ls : Nat) (xs : Nat → Int32) (hL : Ls ≤ 3072) {k : Nat} (hk31 : k < 2 ^ 31) (sz : Nat) : vx_Met l yL_drawn (uws yL_drawn cL_drawn 3 (some .int)) (RM 1 0 0) (va_Pc [.ref b, .int (nI k)] (PreX D b Ls xs sz)) (va_Qi (fun r S1 => r = dV Ls xs k ∧ S1 = E0) (PoB D (wA E0 sz)) (wA E0 sz)) (XCs D E0 (wA E0 sz) nX) 0 0 (wA E0 sz) := by
  refine vx_ofW (cc := cL_drawn) (maxL := 3) (ret := (some .int)) (by decide +kernel) rfl ?_
  intro p e s m args below meth c s₁ B hml htab hv
  obtain ⟨rfl, ⟨hsz, hP, hD, hK, hE, hZ⟩, hX, hbl⟩ := hv
  have hts := atoms_spec (ws := uws yL_drawn cL_drawn 3 (some .int)) B.pre
  have htb : c.exceptionTable.toList = [] := List.eq_nil_iff_forall_not_mem.mpr (fun x hx => htab x hx)
  have C : CX D (wA E0 sz) yL_drawn.cls cL_drawn 3 (some .int) [] p s m [Value.ref b, Value.int (nI k)].toArray meth c := ⟨⟨B.exec, B.bytes, hml, findClass_of_methodNamed B.named, fun w hw => hts w (List.mem_cons_of_mem _ hw)⟩, hK, hE, hZ, B.returns, B.notSynchronized, fun q hq => Or.inr (by rw [← hsz]; exact hq), htb⟩
  have hbA : ¬ wA E0 sz b := fun h => by
    rcases h with ⟨t, ht, -⟩ | h
    · cases ht
    · omega
  rw [← hsz] at hbl
  have hV : V D (wA E0 sz) 3 E0 p l e (RM 1 0 0) s m [Value.ref b, Value.int (nI k)].toArray below meth c 0 0 (vx_MQ below (va_Qi (fun r S1 => r = dV Ls xs k ∧ S1 = E0) (PoB D (wA E0 sz)) (wA E0 sz)) (XCs D E0 (wA E0 sz) nX) [Value.ref b, Value.int (nI k)].toArray s 0 0 (wA E0 sz)) 0 [some (.ref b), some (.int (nI k)), none] [] := by
    change CX D (wA E0 sz) RL _ _ _ _ _ _ _ _ _ _ at C
    refine r_iload1 (pc := 0) C dL_drawn_0 ?_
    refine r_aload0 (pc := 1) C dL_drawn_1 ?_
    refine r_slen (pc := 2) C hX hbl hbA dL_drawn_2 ?_
    refine r_icmp_geN (pc := 3) C (tgt := 12) dL_drawn_3 (by decide) (by omega) (by omega) (fun c_3 => ?_) (fun c_3 => ?_)
    · refine r_sipush (pc := 12) C (v := 14713) dL_drawn_12 (by decide) ?_
      refine r_iload1 (pc := 15) C dL_drawn_15 ?_
      refine r_imul (pc := 16) C dL_drawn_16 ?_
      refine r_sipush (pc := 17) C (v := 11257) dL_drawn_17 (by decide) ?_
      refine r_iadd (pc := 20) C dL_drawn_20 ?_
      refine r_istore2 (pc := 21) C dL_drawn_21 ?_
      refine r_iload2 (pc := 22) C dL_drawn_22 ?_
      refine cL_7 (pc := 23) C dL_drawn_23 ?_
      refine r_iand (pc := 25) C dL_drawn_25 ?_
      exact r_iret C rfl dL_drawn_26 (⟨by unfold dV; first | rw [if_pos (by omega)] | rw [if_neg (by omega)], rfl⟩) (by decide) (by decide)
    · refine r_aload0 (pc := 6) C dL_drawn_6 ?_
      refine r_iload1 (pc := 7) C dL_drawn_7 ?_
      refine r_sld (pc := 8) C hX hbl hbA (k := k) rfl (by omega) hL dL_drawn_8 ?_
      refine r_goto (pc := 9) C (tgt := 21) dL_drawn_9 (by decide) ?_
      refine r_istore2 (pc := 21) C dL_drawn_21 ?_
      refine r_iload2 (pc := 22) C dL_drawn_22 ?_
      refine cL_7 (pc := 23) C dL_drawn_23 ?_
      refine r_iand (pc := 25) C dL_drawn_25 ?_
      exact r_iret C rfl dL_drawn_26 (⟨by unfold dV; first | rw [if_pos (by omega)] | rw [if_neg (by omega)], rfl⟩) (by decide) (by decide)
  rw [lg_entry_eq]
  exact hV s.heap [] _ E0_P E0_D va_S.rf (lL_entry (catc rfl (catc rfl cat0)) (Nat.le_of_ble_eq_true rfl))
section DROWS2
variable {D : Gt} {A : Nat → Prop} {own : String} {cc : ByteArray} {n : Nat} {ret : Option FieldType} {tb : List ExceptionTableEntry} {p : Program} {l : Launch} {e : Env} {R : Room} {s : State} {m : MethodId} {args : Array Value} {below : List Frame} {meth : Method} {c : Code} {cells slots : Nat} {Q : State → Prop} {pc : Nat} {L : List (Option Value)} {st : List Value} {S S1 S2 S3 : St} {b Ls : Nat} {xs : Nat → Int32}
theorem r_drawn (C : CX D A RL cc n ret tb p s m args meth c) (hX : va_X b Ls xs s s.heap) (hbl : b < s.heap.size) (hbA : ¬ A b) (hL : Ls ≤ 3072) {k : Nat} {x : Int32} (hx : x = nI k) (hk31 : k < 2 ^ 31) (hcat : (st.map fun v => v.category).sum ≤ 8) (hR : 2 ≤ R.frames ∧ 130 ≤ R.locals ∧ cells ≤ R.cells ∧ slots ≤ R.slots) (d : decode cc pc = .ok (.invokestatic 102, 3)) (kk : V D A n S p l e R s m args below meth c cells slots Q (pc + 3) L (.int (dV Ls xs k) :: st)) : V D A n S p l e R s m args below meth c cells slots Q pc L (.int x :: .ref b :: st) := fun H locs ls hP hD hS hl => by
  subst hx
  refine vx_calli (vx_runS C.1 (c_L_drawn l D b Ls xs hL hk31 H.size) ⟨words_of (index := 102) (na := 2) C ml_RL_102 ini_L cd_L_drawn hd_RL_102 rfl rfl ⟨by show 1 + 1 ≤ _; omega, by show 8 + (3 + 11) + (78 + 30 * 1) ≤ _; omega⟩, C.1.2.2.2.2 _ st_L_drawn⟩ ⟨fun a U g mk q => ?_, fun U hU hW => ?_⟩ rfl rfl hl.1.1 (show (Value.int (nI k) :: Value.ref b :: st) = [Value.ref b, Value.int (nI k)].reverse ++ st from rfl) (lv_room hcat) d ⟨by show cells + 0 ≤ _; omega, by show slots + 0 ≤ _; omega⟩) hS (fun q h1 hq => ?_) (fun q hq => ?_) (fun q h1 hq => ?_) (fun E ce q9 u t H1 locs1 ht _ _ hx hz hk hS1 h1 h2 h3 => hx.1.elim) (fun r u t H1 locs1 ht _ hp hb hz hk hS1 => ?_)
  · obtain ⟨q0, ⟨q1, qP, qD, qK, qE, qZ⟩, qX, qb⟩ := q
    exact ⟨q0, (PreB.blind (As := [.ref b, .int (nI k)]) a U g mk ⟨q0, q1, qP, qD, qK, qE, qZ⟩).2, va_X.moved (u := U) (U := U.calling g mk a) (Vm.Alike.refl U.vm) qX, qb⟩
  · obtain ⟨-, hq⟩ := pre_of (As := [.ref b, .int (nI k)]) (S := E0) (H := H) (locs := locs) C E0_P E0_D hS
    refine ⟨rfl, (hq U hU hW).2, ?_, Nat.lt_of_lt_of_le hbl hS.1⟩
    rw [hU]
    exact (hX.kept (hS.2.1 b hbl hbA)).moved hW.alike
  · exact wA_sub (S := E0) C.2.2.2.2.2.2.1 E0_D hS q hq
  · exact wA_sub (S := E0) C.2.2.2.2.2.2.1 E0_D hS q hq
  · exact wA_sub (S := E0) C.2.2.2.2.2.2.1 E0_D hS q hq
  · obtain ⟨rfl, rfl⟩ := hp
    refine kk H1 locs1 ls (hP.kept (fun j q hq => hk q.1 (hP j q hq).lt ?_)) hD hS1 hl
    rintro (⟨t, ht, -⟩ | h)
    · cases ht
    · have := (hP j q hq).lt; omega
end DROWS2

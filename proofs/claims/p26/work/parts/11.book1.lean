set_option maxRecDepth 100000 in
set_option maxHeartbeats 4000000 in
theorem c_X4_begin (l : Launch) (D : Gt) (T : List Nat) (ad : Nat → Nat) (σ : Mm) {nr ng : Nat} (hT : TG nr ng T) {i : Nat} (hi : i < nr) (x : Int32) : KV D l yX4_begin (uws yX4_begin cX4_begin 3 none) (RM 2 0 0) [.ref (ad 9), .ref (ad (100 + i)), .int x] (T, ad, cO D ad σ) (fun S1 => S1 = (T, ad, cO D ad (upR (up (up σ 9 0 (nI (i + 1))) 9 1 x) 10 (fillF (σ 10) (-1) 5)))) (nX) 0 0 := by
  refine KV_of (own := RX4) (L0 := [some (.ref (ad 9)), some (.ref (ad (100 + i))), some (.int x)]) (by decide +kernel) rfl (catc rfl (catc rfl (catc rfl cat0))) (Nat.le_of_ble_eq_true rfl) rfl ?_
  intro p e s m args below meth c A hnm C
  refine r_aload0 (pc := 0) C dX4_begin_0 ?_
  refine r_aload1 (pc := 1) C dX4_begin_1 ?_
  refine pX4_15r (pc := 2) C hT (by assumption) dX4_begin_2 ?_
  refine r_aload0 (pc := 5) C dX4_begin_5 ?_
  refine r_iload2 (pc := 6) C dX4_begin_6 ?_
  refine pX4_19 (pc := 7) C hT dX4_begin_7 ?_
  refine r_aload0 (pc := 10) C dX4_begin_10 ?_
  refine gX4_9 (pc := 11) C hT dX4_begin_11 ?_
  refine r_iconst (pc := 14) C (v := (-1)) dX4_begin_14 (by decide) ?_
  refine kX4_23 (pc := 15) C (c_J7_fill_53178 l D _ _ _ (hT.f (k := 10) (by decide)) (N := 5) (h := σ 10) rfl (by decide) _) dX4_begin_15 (Nat.le_of_ble_eq_true rfl) (by decide) ?_
  rintro _ rfl
  exact r_vret C rfl dX4_begin_18 (congrArg (fun z => (T, ad, z)) (funext fun q => (v_10 q).symm)) (by decide) (by decide)

set_option maxRecDepth 100000 in
set_option maxHeartbeats 4000000 in
theorem c_X4_paymentOf (l : Launch) (D : Gt) (T : List Nat) (ad : Nat → Nat) (σ : Mm) {nr ng : Nat} (hT : TG nr ng T) (x : Int32) : KI D l yX4_paymentOf (uws yX4_paymentOf cX4_paymentOf 4 (some .int)) (RM 2 0 0) [.ref (ad 9), .int x] (T, ad, cO D ad σ) (fun r S1 => r = payC σ x 5 ∧ S1 = (T, ad, cO D ad σ)) (nX) 0 0 := by
  refine KI_of (own := RX4) (L0 := [some (.ref (ad 9)), some (.int x), none, none]) (by decide +kernel) rfl (catc rfl (catc rfl cat0)) (Nat.le_of_ble_eq_true rfl) rfl ?_
  intro p e s m args below meth c A hnm C
  have loop : ∀ (z k : Nat), k ≤ 5 → 5 < k + z → V D A 4 (T, ad, cO D ad σ) p l e (RM 2 0 0) s m args below meth c 0 0 (vx_MQ below (va_Qi (fun r S1 => r = payC σ x 5 ∧ S1 = (T, ad, cO D ad σ)) (PoB D A) A) (XCs D (T, ad, cO D ad σ) A (nX)) args s 0 0 A) 7 [some (.ref (ad 9)), some (.int x), some (.int (payC σ x k)), some (.int (nI k))] [] := by
    intro z
    induction z with
    | zero => intro k h1 h2; omega
    | succ z ih =>
      intro k h1 h2
      have hk : nI k + 1 = nI (k + 1) := nI_1 k
      refine r_iload3 (pc := 7) C dX4_paymentOf_7 ?_
      refine r_aload0 (pc := 8) C dX4_paymentOf_8 ?_
      refine gX4_9 (pc := 9) C hT dX4_paymentOf_9 ?_
      refine l10 (pc := 12) C hT dX4_paymentOf_12 ?_
      show V D A 4 (T, ad, cO D ad σ) p l e (RM 2 0 0) s m args below meth c 0 0 _ 13 _ (.int (nI 5) :: .int (nI k) :: [])
      refine r_icmp_geN (pc := 13) C (tgt := 38) dX4_paymentOf_13 (by decide) (by omega) (by omega) (fun c_13 => ?_) (fun c_13 => ?_)
      · refine r_iload2 (pc := 38) C dX4_paymentOf_38 ?_
        exact r_iret C rfl dX4_paymentOf_39 (⟨by rw [show k = 5 by omega], rfl⟩) (by decide) (by decide)
      · refine r_iload3 (pc := 16) C dX4_paymentOf_16 ?_
        refine r_iload1 (pc := 17) C dX4_paymentOf_17 ?_
        refine r_icmp_eq (pc := 18) C (tgt := 32) dX4_paymentOf_18 (by decide) (fun c_18 => ?_) (fun c_18 => ?_)
        · refine r_iinc3 (pc := 32) C dX4_paymentOf_32 hk ?_
          refine r_goto (pc := 35) C (tgt := 7) dX4_paymentOf_35 (by decide) ?_
          first
          | (have e1 : payC σ x (k + 1) = mxI (payC σ x k) (σ 10 k) := iF_f (by assumption)
             rw [← e1]; exact ih (k + 1) (by omega) (by omega))
          | (have e1 : payC σ x (k + 1) = payC σ x k := iF_t (by assumption)
             rw [← e1]; exact ih (k + 1) (by omega) (by omega))
        · refine r_iload2 (pc := 21) C dX4_paymentOf_21 ?_
          refine r_aload0 (pc := 22) C dX4_paymentOf_22 ?_
          refine gX4_9 (pc := 23) C hT dX4_paymentOf_23 ?_
          refine r_iload3 (pc := 26) C dX4_paymentOf_26 ?_
          refine a10 (pc := 27) C hT rfl (by omega) dX4_paymentOf_27 ?_
          refine kX4_33 (pc := 28) C ⟨by decide, Nat.le_of_ble_eq_true rfl, by decide, by decide⟩ dX4_paymentOf_28 ?_
          refine r_istore2 (pc := 31) C dX4_paymentOf_31 ?_
          refine r_iinc3 (pc := 32) C dX4_paymentOf_32 hk ?_
          refine r_goto (pc := 35) C (tgt := 7) dX4_paymentOf_35 (by decide) ?_
          first
          | (have e1 : payC σ x (k + 1) = mxI (payC σ x k) (σ 10 k) := iF_f (by assumption)
             rw [← e1]; exact ih (k + 1) (by omega) (by omega))
          | (have e1 : payC σ x (k + 1) = payC σ x k := iF_t (by assumption)
             rw [← e1]; exact ih (k + 1) (by omega) (by omega))
  refine r_aload0 (pc := 0) C dX4_paymentOf_0 ?_
  refine gX4_19 (pc := 1) C hT dX4_paymentOf_1 ?_
  refine r_istore2 (pc := 4) C dX4_paymentOf_4 ?_
  refine r_iconst (pc := 5) C (v := 0) dX4_paymentOf_5 (by decide) ?_
  refine r_istore3 (pc := 6) C dX4_paymentOf_6 ?_
  exact loop 6 0 (by omega) (by omega)

set_option maxRecDepth 100000 in
set_option maxHeartbeats 4000000 in
theorem c_X0_grade (l : Launch) (D : Gt) (T : List Nat) (ad : Nat → Nat) (σ : Mm) {nr ng : Nat} (hT : TG nr ng T) {i : Nat} (hi : i < ng) : KI D l yX0_grade (uws yX0_grade cX0_grade 1 (some .int)) (RM 3 0 0) [.ref (ad (200 + i))] (T, ad, cO D ad σ) (fun r S1 => r = gradeC σ i ∧ S1 = (T, ad, cO D ad σ)) (nX) 0 0 := by
  refine KI_of (own := RX0) (L0 := [some (.ref (ad (200 + i)))]) (by decide +kernel) rfl (catc rfl cat0) (Nat.le_of_ble_eq_true rfl) rfl ?_
  intro p e s m args below meth c A hnm C
  refine r_aload0 (pc := 0) C dX0_grade_0 ?_
  refine gX0_12 (pc := 1) C hT (by assumption) dX0_grade_1 ?_
  refine gX0_54 (pc := 4) C (hT.l (by assumption)) (cO_l2 hT (by assumption)) dX0_grade_4 ?_
  refine r_iconst (pc := 7) C (v := 2) dX0_grade_7 (by decide) ?_
  refine r_icmp_lt (pc := 8) C (tgt := 36) dX0_grade_8 (by decide) (fun c_8 => ?_) (fun c_8 => ?_)
  · refine r_aload0 (pc := 36) C dX0_grade_36 ?_
    refine gX0_12 (pc := 37) C hT (by assumption) dX0_grade_37 ?_
    refine kX0_63 (pc := 40) C (c_X1_isFull l D _ _ _ (hT.l (by assumption)) (cO_l2 hT (by assumption))) (hT.l (by assumption)) (cO_l2 hT (by assumption)) dX0_grade_40 (Nat.le_of_ble_eq_true rfl) (by decide) ?_
    rintro _ _ ⟨rfl, rfl⟩
    refine r_if_eq_b (pc := 43) C (tgt := 56) dX0_grade_43 (by decide) (fun c_43 => ?_) (fun c_43 => ?_)
    · refine r_iconst (pc := 56) C (v := (-1)) dX0_grade_56 (by decide) ?_
      exact r_iret C rfl dX0_grade_57 (⟨by simp [gradeC, gradeS, iF, *] <;> grind, rfl⟩) (by decide) (by decide)
    · refine r_aload0 (pc := 46) C dX0_grade_46 ?_
      refine gX0_12 (pc := 47) C hT (by assumption) dX0_grade_47 ?_
      refine kX0_67 (pc := 50) C (c_X1_middle l D _ _ _ (hT.l (by assumption)) (cO_l2 hT (by assumption))) (hT.l (by assumption)) (cO_l2 hT (by assumption)) dX0_grade_50 (Nat.le_of_ble_eq_true rfl) (by decide) ?_
      rintro _ _ ⟨rfl, rfl⟩
      refine r_goto (pc := 53) C (tgt := 57) dX0_grade_53 (by decide) ?_
      exact r_iret C rfl dX0_grade_57 (⟨by simp [gradeC, gradeS, iF, *] <;> grind, rfl⟩) (by decide) (by decide)
  · refine r_aload0 (pc := 11) C dX0_grade_11 ?_
    refine gX0_12 (pc := 12) C hT (by assumption) dX0_grade_12 ?_
    refine gX0_57 (pc := 15) C (hT.l (by assumption)) (cO_l2 hT (by assumption)) dX0_grade_15 ?_
    refine r_aload0 (pc := 18) C dX0_grade_18 ?_
    refine gX0_12 (pc := 19) C hT (by assumption) dX0_grade_19 ?_
    refine gX0_60 (pc := 22) C (hT.l (by assumption)) (cO_l2 hT (by assumption)) dX0_grade_22 ?_
    refine r_icmp_ne (pc := 25) C (tgt := 36) dX0_grade_25 (by decide) (fun c_25 => ?_) (fun c_25 => ?_)
    · refine r_aload0 (pc := 36) C dX0_grade_36 ?_
      refine gX0_12 (pc := 37) C hT (by assumption) dX0_grade_37 ?_
      refine kX0_63 (pc := 40) C (c_X1_isFull l D _ _ _ (hT.l (by assumption)) (cO_l2 hT (by assumption))) (hT.l (by assumption)) (cO_l2 hT (by assumption)) dX0_grade_40 (Nat.le_of_ble_eq_true rfl) (by decide) ?_
      rintro _ _ ⟨rfl, rfl⟩
      refine r_if_eq_b (pc := 43) C (tgt := 56) dX0_grade_43 (by decide) (fun c_43 => ?_) (fun c_43 => ?_)
      · refine r_iconst (pc := 56) C (v := (-1)) dX0_grade_56 (by decide) ?_
        exact r_iret C rfl dX0_grade_57 (⟨by simp [gradeC, gradeS, iF, *] <;> grind, rfl⟩) (by decide) (by decide)
      · refine r_aload0 (pc := 46) C dX0_grade_46 ?_
        refine gX0_12 (pc := 47) C hT (by assumption) dX0_grade_47 ?_
        refine kX0_67 (pc := 50) C (c_X1_middle l D _ _ _ (hT.l (by assumption)) (cO_l2 hT (by assumption))) (hT.l (by assumption)) (cO_l2 hT (by assumption)) dX0_grade_50 (Nat.le_of_ble_eq_true rfl) (by decide) ?_
        rintro _ _ ⟨rfl, rfl⟩
        refine r_goto (pc := 53) C (tgt := 57) dX0_grade_53 (by decide) ?_
        exact r_iret C rfl dX0_grade_57 (⟨by simp [gradeC, gradeS, iF, *] <;> grind, rfl⟩) (by decide) (by decide)
    · refine r_aload0 (pc := 28) C dX0_grade_28 ?_
      refine gX0_12 (pc := 29) C hT (by assumption) dX0_grade_29 ?_
      refine gX0_57 (pc := 32) C (hT.l (by assumption)) (cO_l2 hT (by assumption)) dX0_grade_32 ?_
      exact r_iret C rfl dX0_grade_35 (⟨by simp [gradeC, gradeS, iF, *] <;> grind, rfl⟩) (by decide) (by decide)

set_option maxRecDepth 100000 in
set_option maxHeartbeats 4000000 in
theorem c_X0_gradedPrice (l : Launch) (D : Gt) (T : List Nat) (ad : Nat → Nat) (σ : Mm) {nr ng : Nat} (hT : TG nr ng T) {i : Nat} (hi : i < ng) : KI D l yX0_gradedPrice (uws yX0_gradedPrice cX0_gradedPrice 3 (some .int)) (RM 4 0 0) [.ref (ad (200 + i))] (T, ad, cO D ad σ) (fun r S1 => r = gpS (σ 47 i) (gradeC σ i) ∧ S1 = (T, ad, cO D ad σ)) (nX) 0 0 := by
  refine KI_of (own := RX0) (L0 := [some (.ref (ad (200 + i))), none, none]) (by decide +kernel) rfl (catc rfl cat0) (Nat.le_of_ble_eq_true rfl) rfl ?_
  intro p e s m args below meth c A hnm C
  refine r_aload0 (pc := 0) C dX0_gradedPrice_0 ?_
  refine kX0_71 (pc := 1) C (c_X0_grade l D _ _ _ hT (by assumption)) (hT.g (by assumption)) (cO_ge hT (by assumption)) dX0_gradedPrice_1 (Nat.le_of_ble_eq_true rfl) (by decide) ?_
  rintro _ _ ⟨rfl, rfl⟩
  refine r_istore1 (pc := 4) C dX0_gradedPrice_4 ?_
  refine r_iload1 (pc := 5) C dX0_gradedPrice_5 ?_
  refine r_iconst (pc := 6) C (v := (-1)) dX0_gradedPrice_6 (by decide) ?_
  refine r_icmp_ne (pc := 7) C (tgt := 12) dX0_gradedPrice_7 (by decide) (fun c_7 => ?_) (fun c_7 => ?_)
  · refine r_aload0 (pc := 12) C dX0_gradedPrice_12 ?_
    refine gX0_53 (pc := 13) C hT (by assumption) dX0_gradedPrice_13 ?_
    refine r_bipush (pc := 16) C (v := 20) dX0_gradedPrice_16 (by decide) ?_
    refine r_iload1 (pc := 18) C dX0_gradedPrice_18 ?_
    refine r_isub (pc := 19) C dX0_gradedPrice_19 ?_
    refine r_imul (pc := 20) C dX0_gradedPrice_20 ?_
    refine r_istore2 (pc := 21) C dX0_gradedPrice_21 ?_
    refine r_aload0 (pc := 22) C dX0_gradedPrice_22 ?_
    refine gX0_53 (pc := 23) C hT (by assumption) dX0_gradedPrice_23 ?_
    refine r_bipush (pc := 26) C (v := 100) dX0_gradedPrice_26 (by decide) ?_
    refine r_icmp_lt (pc := 28) C (tgt := 37) dX0_gradedPrice_28 (by decide) (fun c_28 => ?_) (fun c_28 => ?_)
    · refine r_iload2 (pc := 37) C dX0_gradedPrice_37 ?_
      exact r_iret C rfl dX0_gradedPrice_38 (⟨by simp [gpS, iF, *] <;> grind, rfl⟩) (by decide) (by decide)
    · refine r_iconst (pc := 31) C (v := 2) dX0_gradedPrice_31 (by decide) ?_
      refine r_iload2 (pc := 32) C dX0_gradedPrice_32 ?_
      refine r_imul (pc := 33) C dX0_gradedPrice_33 ?_
      refine r_goto (pc := 34) C (tgt := 38) dX0_gradedPrice_34 (by decide) ?_
      exact r_iret C rfl dX0_gradedPrice_38 (⟨by simp [gpS, iF, *] <;> grind, rfl⟩) (by decide) (by decide)
  · refine r_iconst (pc := 10) C (v := (-1)) dX0_gradedPrice_10 (by decide) ?_
    exact r_iret C rfl dX0_gradedPrice_11 (⟨by simp [gpS, iF, *] <;> grind, rfl⟩) (by decide) (by decide)

set_option maxRecDepth 100000 in
set_option maxHeartbeats 4000000 in
theorem c_X5_pitOf (l : Launch) (D : Gt) (T : List Nat) (ad : Nat → Nat) (σ : Mm) {nr ng : Nat} (hT : TG nr ng T) {b : Nat} (hb : b < 12) : KI D l yX5_pitOf (uws yX5_pitOf cX5_pitOf 2 (some .int)) (RM 2 0 0) [.ref (ad 0), .int (nI b)] (T, ad, cO D ad σ) (fun r S1 => r = σ 1 b ∧ S1 = (T, ad, cO D ad σ)) (nX) 0 0 := by
  refine KI_of (own := RX5) (L0 := [some (.ref (ad 0)), some (.int (nI b))]) (by decide +kernel) rfl (catc rfl (catc rfl cat0)) (Nat.le_of_ble_eq_true rfl) rfl ?_
  intro p e s m args below meth c A hnm C
  refine r_iload1 (pc := 0) C dX5_pitOf_0 ?_
  refine r_aload0 (pc := 1) C dX5_pitOf_1 ?_
  refine gX5_9 (pc := 2) C hT dX5_pitOf_2 ?_
  refine l1 (pc := 5) C hT dX5_pitOf_5 ?_
  refine kX5_74 (pc := 6) C (c_X5_isIn l D _ _ _) dX5_pitOf_6 (Nat.le_of_ble_eq_true rfl) (by decide) ?_
  rintro _ _ ⟨rfl, rfl⟩
  refine r_if_eq_b (pc := 9) C (tgt := 21) dX5_pitOf_9 (by decide) (fun c_9 => ?_) (fun c_9 => ?_)
  · refine r_iconst (pc := 21) C (v := (-1)) dX5_pitOf_21 (by decide) ?_
    exact r_iret C rfl dX5_pitOf_22 (by first | exact ⟨rfl, rfl⟩ | (exfalso; exact c_9 ⟨nI_pos' (by omega), nI_lt (b := 12) (by omega) (by decide)⟩)) (by decide) (by decide)
  · refine r_aload0 (pc := 12) C dX5_pitOf_12 ?_
    refine gX5_9 (pc := 13) C hT dX5_pitOf_13 ?_
    refine r_iload1 (pc := 16) C dX5_pitOf_16 ?_
    refine a1 (pc := 17) C hT rfl (by omega) dX5_pitOf_17 ?_
    refine r_goto (pc := 18) C (tgt := 22) dX5_pitOf_18 (by decide) ?_
    exact r_iret C rfl dX5_pitOf_22 (by first | exact ⟨rfl, rfl⟩ | (exfalso; exact c_9 ⟨nI_pos' (by omega), nI_lt (b := 12) (by omega) (by decide)⟩)) (by decide) (by decide)

set_option maxRecDepth 100000 in
set_option maxHeartbeats 4000000 in
theorem c_X5_addTo (l : Launch) (D : Gt) (T : List Nat) (ad : Nat → Nat) (f : Nat → va_E) {t N : Nat} {h : Nat → Int32} (ht : t ∈ T) (ho : f t = .inl (D.2 0, N, .inl h)) (hN : N < 2 ^ 30) {b : Nat} (hb : b < N) (x : Int32) : KV D l yX5_addTo (uws yX5_addTo cX5_addTo 3 none) (RM 2 0 0) [.ref (ad t), .int (nI b), .int x] (T, ad, f) (fun S1 => S1 = (T, ad, va_up f t (.inl (D.2 0, N, .inl (upd h b (h b + x)))))) (nX) 0 0 := by
  refine KV_of (own := RX5) (L0 := [some (.ref (ad t)), some (.int (nI b)), some (.int x)]) (by decide +kernel) rfl (catc rfl (catc rfl (catc rfl cat0))) (Nat.le_of_ble_eq_true rfl) rfl ?_
  intro p e s m args below meth c A hnm C
  refine r_iload1 (pc := 0) C dX5_addTo_0 ?_
  refine r_aload0 (pc := 1) C dX5_addTo_1 ?_
  refine r_alen (pc := 2) C ht ho (tk := 0) rfl (v := nI N) rfl dX5_addTo_2 ?_
  refine kX5_74 (pc := 3) C (c_X5_isIn l D _ _ _) dX5_addTo_3 (Nat.le_of_ble_eq_true rfl) (by decide) ?_
  rintro _ _ ⟨rfl, rfl⟩
  refine r_if_eq_b (pc := 6) C (tgt := 16) dX5_addTo_6 (by decide) (fun c_6 => ?_) (fun c_6 => ?_)
  · exact r_vret C rfl dX5_addTo_16 (by first | rfl | (exfalso; exact c_6 ⟨nI_pos' (by omega), nI_lt (b := N) (by omega) (by omega)⟩)) (by decide) (by decide)
  · refine r_aload0 (pc := 9) C dX5_addTo_9 ?_
    refine r_iload1 (pc := 10) C dX5_addTo_10 ?_
    refine r_dup2 (pc := 11) C dX5_addTo_11 rfl rfl ?_
    refine r_iald (pc := 12) C ht ho rfl hb (by omega) dX5_addTo_12 ?_
    refine r_iload2 (pc := 13) C dX5_addTo_13 ?_
    refine r_iadd (pc := 14) C dX5_addTo_14 ?_
    refine r_iast (pc := 15) C ht ho rfl hb (by omega) (fun _ => rfl) dX5_addTo_15 ?_
    exact r_vret C rfl dX5_addTo_16 (by first | rfl | (exfalso; exact c_6 ⟨nI_pos' (by omega), nI_lt (b := N) (by omega) (by omega)⟩)) (by decide) (by decide)

set_option maxRecDepth 100000 in
set_option maxHeartbeats 4000000 in
theorem c_X5_sumOf (l : Launch) (D : Gt) (T : List Nat) (ad : Nat → Nat) (f : Nat → va_E) {t N : Nat} {h : Nat → Int32} (ht : t ∈ T) (ho : f t = .inl (D.2 0, N, .inl h)) (hN : N < 2 ^ 30) : KI D l yX5_sumOf (uws yX5_sumOf cX5_sumOf 6 (some .int)) (RM 1 0 0) [.ref (ad t)] (T, ad, f) (fun r S1 => r = sumF h N ∧ S1 = (T, ad, f)) (nX) 0 0 := by
  refine KI_of (own := RX5) (L0 := [some (.ref (ad t)), none, none, none, none, none]) (by decide +kernel) rfl (catc rfl cat0) (Nat.le_of_ble_eq_true rfl) rfl ?_
  intro p e s m args below meth c A hnm C
  have loop : ∀ (z k : Nat) (x5 : Option Value), k ≤ N → N < k + z → V D A 6 (T, ad, f) p l e (RM 1 0 0) s m args below meth c 0 0 (vx_MQ below (va_Qi (fun r S1 => r = sumF h N ∧ S1 = (T, ad, f)) (PoB D A) A) (XCs D (T, ad, f) A (nX)) args s 0 0 A) 10 [some (.ref (ad t)), some (.int (sumF h k)), some (.ref (ad t)), some (.int (nI N)), some (.int (nI k)), x5] [] := by
    intro z
    induction z with
    | zero => intro k x5 h1 h2; omega
    | succ z ih =>
      intro k x5 h1 h2
      have hk : nI k + 1 = nI (k + 1) := nI_1 k
      refine r_iload4 (pc := 10) C dX5_sumOf_10 ?_
      refine r_iload3 (pc := 12) C dX5_sumOf_12 ?_
      refine r_icmp_geN (pc := 13) C (tgt := 33) dX5_sumOf_13 (by decide) (by omega) (by omega) (fun c_13 => ?_) (fun c_13 => ?_)
      · refine r_iload1 (pc := 33) C dX5_sumOf_33 ?_
        exact r_iret C rfl dX5_sumOf_34 (⟨by rw [show k = N by omega], rfl⟩) (by decide) (by decide)
      · refine r_aload2 (pc := 16) C dX5_sumOf_16 ?_
        refine r_iload4 (pc := 17) C dX5_sumOf_17 ?_
        refine r_iald (pc := 19) C ht ho rfl (by omega) (by omega) dX5_sumOf_19 ?_
        refine r_istore5 (pc := 20) C dX5_sumOf_20 ?_
        refine r_iload1 (pc := 22) C dX5_sumOf_22 ?_
        refine r_iload5 (pc := 23) C dX5_sumOf_23 ?_
        refine r_iadd (pc := 25) C dX5_sumOf_25 ?_
        refine r_istore1 (pc := 26) C dX5_sumOf_26 ?_
        refine r_iinc4 (pc := 27) C dX5_sumOf_27 hk ?_
        refine r_goto (pc := 30) C (tgt := 10) dX5_sumOf_30 (by decide) ?_
        exact ih (k + 1) _ (by omega) (by omega)
  refine r_iconst (pc := 0) C (v := 0) dX5_sumOf_0 (by decide) ?_
  refine r_istore1 (pc := 1) C dX5_sumOf_1 ?_
  refine r_aload0 (pc := 2) C dX5_sumOf_2 ?_
  refine r_astore2 (pc := 3) C dX5_sumOf_3 ?_
  refine r_aload2 (pc := 4) C dX5_sumOf_4 ?_
  refine r_alen (pc := 5) C ht ho (tk := 0) rfl (v := nI N) rfl dX5_sumOf_5 ?_
  refine r_istore3 (pc := 6) C dX5_sumOf_6 ?_
  refine r_iconst (pc := 7) C (v := 0) dX5_sumOf_7 (by decide) ?_
  refine r_istore4 (pc := 8) C dX5_sumOf_8 ?_
  exact loop (N + 1) 0 _ (by omega) (by omega)

set_option maxRecDepth 100000 in
set_option maxHeartbeats 4000000 in
theorem c_X5_roughWeight (l : Launch) (D : Gt) (T : List Nat) (ad : Nat → Nat) (σ : Mm) {nr ng : Nat} (hT : TG nr ng T) (hp : PRs nr σ) : KI D l yX5_roughWeight (uws yX5_roughWeight cX5_roughWeight 6 (some .int)) (RM 1 0 0) [.ref (ad 0)] (T, ad, cO D ad σ) (fun r S1 => r = rwC σ 40 ∧ S1 = (T, ad, cO D ad σ)) (nX) 0 0 := by
  refine KI_of (own := RX5) (L0 := [some (.ref (ad 0)), none, none, none, none, none]) (by decide +kernel) rfl (catc rfl cat0) (Nat.le_of_ble_eq_true rfl) rfl ?_
  intro p e s m args below meth c A hnm C
  have loop : ∀ (z k : Nat) (x5 : Option Value), k ≤ 40 → 40 < k + z → V D A 6 (T, ad, cO D ad σ) p l e (RM 1 0 0) s m args below meth c 0 0 (vx_MQ below (va_Qi (fun r S1 => r = rwC σ 40 ∧ S1 = (T, ad, cO D ad σ)) (PoB D A) A) (XCs D (T, ad, cO D ad σ) A (nX)) args s 0 0 A) 13 [some (.ref (ad 0)), some (.int (rwC σ k)), some (.ref (ad 2)), some (.int (nI 40)), some (.int (nI k)), x5] [] := by
    intro z
    induction z with
    | zero => intro k x5 h1 h2; omega
    | succ z ih =>
      intro k x5 h1 h2
      have hk : nI k + 1 = nI (k + 1) := nI_1 k
      refine r_iload4 (pc := 13) C dX5_roughWeight_13 ?_
      refine r_iload3 (pc := 15) C dX5_roughWeight_15 ?_
      refine r_icmp_geN (pc := 16) C (tgt := 53) dX5_roughWeight_16 (by decide) (by omega) (by omega) (fun c_16 => ?_) (fun c_16 => ?_)
      · refine r_iload1 (pc := 53) C dX5_roughWeight_53 ?_
        exact r_iret C rfl dX5_roughWeight_54 (⟨by rw [show k = 40 by omega], rfl⟩) (by decide) (by decide)
      · refine r_aload2 (pc := 19) C dX5_roughWeight_19 ?_
        refine r_iload4 (pc := 20) C dX5_roughWeight_20 ?_
        refine a2 (pc := 22) C hT rfl (by omega) dX5_roughWeight_22 (fun c_22 => ?_) (fun c_22 => ?_)
        · refine r_astoren5 (pc := 23) C dX5_roughWeight_23 ?_
          refine r_aloadn5 (pc := 25) C dX5_roughWeight_25 ?_
          refine r_ifnull_n (pc := 27) C (tgt := 47) dX5_roughWeight_27 (by decide) ?_
          refine r_iinc4 (pc := 47) C dX5_roughWeight_47 hk ?_
          refine r_goto (pc := 50) C (tgt := 13) dX5_roughWeight_50 (by decide) ?_
          first
          | (have e1 : rwC σ (k + 1) = rwC σ k + σ 23 k := iF_t (by grind)
             rw [← e1]; exact ih (k + 1) _ (by omega) (by omega))
          | (have e1 : rwC σ (k + 1) = rwC σ k := iF_f (by grind)
             rw [← e1]; exact ih (k + 1) _ (by omega) (by omega))
        · refine r_astore5 (pc := 23) C dX5_roughWeight_23 ?_
          refine r_aload5 (pc := 25) C dX5_roughWeight_25 ?_
          refine r_ifnull_r (pc := 27) C dX5_roughWeight_27 ?_
          have hi : k < nr := (hp k (by omega)).mp (by assumption)
          refine r_aload5 (pc := 30) C dX5_roughWeight_30 ?_
          refine gX5_109 (pc := 32) C hT (by assumption) dX5_roughWeight_32 ?_
          refine r_iconst (pc := 35) C (v := 3) dX5_roughWeight_35 (by decide) ?_
          refine r_icmp_eq (pc := 36) C (tgt := 47) dX5_roughWeight_36 (by decide) (fun c_36 => ?_) (fun c_36 => ?_)
          · refine r_iinc4 (pc := 47) C dX5_roughWeight_47 hk ?_
            refine r_goto (pc := 50) C (tgt := 13) dX5_roughWeight_50 (by decide) ?_
            first
            | (have e1 : rwC σ (k + 1) = rwC σ k + σ 23 k := iF_t (by grind)
               rw [← e1]; exact ih (k + 1) _ (by omega) (by omega))
            | (have e1 : rwC σ (k + 1) = rwC σ k := iF_f (by grind)
               rw [← e1]; exact ih (k + 1) _ (by omega) (by omega))
          · refine r_iload1 (pc := 39) C dX5_roughWeight_39 ?_
            refine r_aload5 (pc := 40) C dX5_roughWeight_40 ?_
            refine gX5_262 (pc := 42) C hT (by assumption) dX5_roughWeight_42 ?_
            refine r_iadd (pc := 45) C dX5_roughWeight_45 ?_
            refine r_istore1 (pc := 46) C dX5_roughWeight_46 ?_
            refine r_iinc4 (pc := 47) C dX5_roughWeight_47 hk ?_
            refine r_goto (pc := 50) C (tgt := 13) dX5_roughWeight_50 (by decide) ?_
            first
            | (have e1 : rwC σ (k + 1) = rwC σ k + σ 23 k := iF_t (by grind)
               rw [← e1]; exact ih (k + 1) _ (by omega) (by omega))
            | (have e1 : rwC σ (k + 1) = rwC σ k := iF_f (by grind)
               rw [← e1]; exact ih (k + 1) _ (by omega) (by omega))
  refine r_iconst (pc := 0) C (v := 0) dX5_roughWeight_0 (by decide) ?_
  refine r_istore1 (pc := 1) C dX5_roughWeight_1 ?_
  refine r_aload0 (pc := 2) C dX5_roughWeight_2 ?_
  refine gX5_15 (pc := 3) C hT dX5_roughWeight_3 ?_
  refine r_astore2 (pc := 6) C dX5_roughWeight_6 ?_
  refine r_aload2 (pc := 7) C dX5_roughWeight_7 ?_
  refine l2 (pc := 8) C hT dX5_roughWeight_8 ?_
  refine r_istore3 (pc := 9) C dX5_roughWeight_9 ?_
  refine r_iconst (pc := 10) C (v := 0) dX5_roughWeight_10 (by decide) ?_
  refine r_istore4 (pc := 11) C dX5_roughWeight_11 ?_
  exact loop 41 0 _ (by omega) (by omega)

set_option maxRecDepth 100000 in
set_option maxHeartbeats 4000000 in
theorem c_X5_polishedWeight (l : Launch) (D : Gt) (T : List Nat) (ad : Nat → Nat) (σ : Mm) {nr ng : Nat} (hT : TG nr ng T) (hg : PGs ng σ) : KI D l yX5_polishedWeight (uws yX5_polishedWeight cX5_polishedWeight 6 (some .int)) (RM 1 0 0) [.ref (ad 0)] (T, ad, cO D ad σ) (fun r S1 => r = pwC σ 80 ∧ S1 = (T, ad, cO D ad σ)) (nX) 0 0 := by
  refine KI_of (own := RX5) (L0 := [some (.ref (ad 0)), none, none, none, none, none]) (by decide +kernel) rfl (catc rfl cat0) (Nat.le_of_ble_eq_true rfl) rfl ?_
  intro p e s m args below meth c A hnm C
  have loop : ∀ (z k : Nat) (x5 : Option Value), k ≤ 80 → 80 < k + z → V D A 6 (T, ad, cO D ad σ) p l e (RM 1 0 0) s m args below meth c 0 0 (vx_MQ below (va_Qi (fun r S1 => r = pwC σ 80 ∧ S1 = (T, ad, cO D ad σ)) (PoB D A) A) (XCs D (T, ad, cO D ad σ) A (nX)) args s 0 0 A) 13 [some (.ref (ad 0)), some (.int (pwC σ k)), some (.ref (ad 11)), some (.int (nI 80)), some (.int (nI k)), x5] [] := by
    intro z
    induction z with
    | zero => intro k x5 h1 h2; omega
    | succ z ih =>
      intro k x5 h1 h2
      have hk : nI k + 1 = nI (k + 1) := nI_1 k
      refine r_iload4 (pc := 13) C dX5_polishedWeight_13 ?_
      refine r_iload3 (pc := 15) C dX5_polishedWeight_15 ?_
      refine r_icmp_geN (pc := 16) C (tgt := 44) dX5_polishedWeight_16 (by decide) (by omega) (by omega) (fun c_16 => ?_) (fun c_16 => ?_)
      · refine r_iload1 (pc := 44) C dX5_polishedWeight_44 ?_
        exact r_iret C rfl dX5_polishedWeight_45 (⟨by rw [show k = 80 by omega], rfl⟩) (by decide) (by decide)
      · refine r_aload2 (pc := 19) C dX5_polishedWeight_19 ?_
        refine r_iload4 (pc := 20) C dX5_polishedWeight_20 ?_
        refine a11 (pc := 22) C hT rfl (by omega) dX5_polishedWeight_22 (fun c_22 => ?_) (fun c_22 => ?_)
        · refine r_astoren5 (pc := 23) C dX5_polishedWeight_23 ?_
          refine r_aloadn5 (pc := 25) C dX5_polishedWeight_25 ?_
          refine r_ifnull_n (pc := 27) C (tgt := 38) dX5_polishedWeight_27 (by decide) ?_
          refine r_iinc4 (pc := 38) C dX5_polishedWeight_38 hk ?_
          refine r_goto (pc := 41) C (tgt := 13) dX5_polishedWeight_41 (by decide) ?_
          first
          | (have e1 : pwC σ (k + 1) = pwC σ k + σ 47 k := iF_t (by grind)
             rw [← e1]; exact ih (k + 1) _ (by omega) (by omega))
          | (have e1 : pwC σ (k + 1) = pwC σ k := iF_f (by grind)
             rw [← e1]; exact ih (k + 1) _ (by omega) (by omega))
        · refine r_astore5 (pc := 23) C dX5_polishedWeight_23 ?_
          refine r_aload5 (pc := 25) C dX5_polishedWeight_25 ?_
          refine r_ifnull_r (pc := 27) C dX5_polishedWeight_27 ?_
          have hi : k < ng := (hg k (by omega)).mp (by assumption)
          refine r_iload1 (pc := 30) C dX5_polishedWeight_30 ?_
          refine r_aload5 (pc := 31) C dX5_polishedWeight_31 ?_
          refine gX5_280 (pc := 33) C hT (by assumption) dX5_polishedWeight_33 ?_
          refine r_iadd (pc := 36) C dX5_polishedWeight_36 ?_
          refine r_istore1 (pc := 37) C dX5_polishedWeight_37 ?_
          refine r_iinc4 (pc := 38) C dX5_polishedWeight_38 hk ?_
          refine r_goto (pc := 41) C (tgt := 13) dX5_polishedWeight_41 (by decide) ?_
          first
          | (have e1 : pwC σ (k + 1) = pwC σ k + σ 47 k := iF_t (by grind)
             rw [← e1]; exact ih (k + 1) _ (by omega) (by omega))
          | (have e1 : pwC σ (k + 1) = pwC σ k := iF_f (by grind)
             rw [← e1]; exact ih (k + 1) _ (by omega) (by omega))
  refine r_iconst (pc := 0) C (v := 0) dX5_polishedWeight_0 (by decide) ?_
  refine r_istore1 (pc := 1) C dX5_polishedWeight_1 ?_
  refine r_aload0 (pc := 2) C dX5_polishedWeight_2 ?_
  refine gX5_47 (pc := 3) C hT dX5_polishedWeight_3 ?_
  refine r_astore2 (pc := 6) C dX5_polishedWeight_6 ?_
  refine r_aload2 (pc := 7) C dX5_polishedWeight_7 ?_
  refine l11 (pc := 8) C hT dX5_polishedWeight_8 ?_
  refine r_istore3 (pc := 9) C dX5_polishedWeight_9 ?_
  refine r_iconst (pc := 10) C (v := 0) dX5_polishedWeight_10 (by decide) ?_
  refine r_istore4 (pc := 11) C dX5_polishedWeight_11 ?_
  exact loop 81 0 _ (by omega) (by omega)

set_option maxRecDepth 100000 in
set_option maxHeartbeats 4000000 in
theorem c_X5_wrongPapers (l : Launch) (D : Gt) (T : List Nat) (ad : Nat → Nat) (σ : Mm) {nr ng : Nat} (hT : TG nr ng T) (hg : PGs ng σ) : KI D l yX5_wrongPapers (uws yX5_wrongPapers cX5_wrongPapers 6 (some .int)) (RM 1 0 0) [.ref (ad 0)] (T, ad, cO D ad σ) (fun r S1 => r = wpC σ 80 ∧ S1 = (T, ad, cO D ad σ)) (nX) 0 0 := by
  refine KI_of (own := RX5) (L0 := [some (.ref (ad 0)), none, none, none, none, none]) (by decide +kernel) rfl (catc rfl cat0) (Nat.le_of_ble_eq_true rfl) rfl ?_
  intro p e s m args below meth c A hnm C
  have loop : ∀ (z k : Nat) (x5 : Option Value), k ≤ 80 → 80 < k + z → V D A 6 (T, ad, cO D ad σ) p l e (RM 1 0 0) s m args below meth c 0 0 (vx_MQ below (va_Qi (fun r S1 => r = wpC σ 80 ∧ S1 = (T, ad, cO D ad σ)) (PoB D A) A) (XCs D (T, ad, cO D ad σ) A (nX)) args s 0 0 A) 13 [some (.ref (ad 0)), some (.int (wpC σ k)), some (.ref (ad 11)), some (.int (nI 80)), some (.int (nI k)), x5] [] := by
    intro z
    induction z with
    | zero => intro k x5 h1 h2; omega
    | succ z ih =>
      intro k x5 h1 h2
      have hk : nI k + 1 = nI (k + 1) := nI_1 k
      refine r_iload4 (pc := 13) C dX5_wrongPapers_13 ?_
      refine r_iload3 (pc := 15) C dX5_wrongPapers_15 ?_
      refine r_icmp_geN (pc := 16) C (tgt := 61) dX5_wrongPapers_16 (by decide) (by omega) (by omega) (fun c_16 => ?_) (fun c_16 => ?_)
      · refine r_iload1 (pc := 61) C dX5_wrongPapers_61 ?_
        exact r_iret C rfl dX5_wrongPapers_62 (⟨by rw [show k = 80 by omega], rfl⟩) (by decide) (by decide)
      · refine r_aload2 (pc := 19) C dX5_wrongPapers_19 ?_
        refine r_iload4 (pc := 20) C dX5_wrongPapers_20 ?_
        refine a11 (pc := 22) C hT rfl (by omega) dX5_wrongPapers_22 (fun c_22 => ?_) (fun c_22 => ?_)
        · refine r_astoren5 (pc := 23) C dX5_wrongPapers_23 ?_
          refine r_aloadn5 (pc := 25) C dX5_wrongPapers_25 ?_
          refine r_ifnull_n (pc := 27) C (tgt := 55) dX5_wrongPapers_27 (by decide) ?_
          refine r_iinc4 (pc := 55) C dX5_wrongPapers_55 hk ?_
          refine r_goto (pc := 58) C (tgt := 13) dX5_wrongPapers_58 (by decide) ?_
          first
          | (have e1 : wpC σ (k + 1) = wpC σ k + 1 := iF_t (by grind)
             rw [← e1]; exact ih (k + 1) _ (by omega) (by omega))
          | (have e1 : wpC σ (k + 1) = wpC σ k := iF_f (by grind)
             rw [← e1]; exact ih (k + 1) _ (by omega) (by omega))
        · refine r_astore5 (pc := 23) C dX5_wrongPapers_23 ?_
          refine r_aload5 (pc := 25) C dX5_wrongPapers_25 ?_
          refine r_ifnull_r (pc := 27) C dX5_wrongPapers_27 ?_
          have hi : k < ng := (hg k (by omega)).mp (by assumption)
          refine r_aload5 (pc := 30) C dX5_wrongPapers_30 ?_
          refine gX5_296 (pc := 32) C hT (by assumption) dX5_wrongPapers_32 ?_
          refine r_iconst (pc := 35) C (v := (-1)) dX5_wrongPapers_35 (by decide) ?_
          refine r_icmp_eq (pc := 36) C (tgt := 55) dX5_wrongPapers_36 (by decide) (fun c_36 => ?_) (fun c_36 => ?_)
          · refine r_iinc4 (pc := 55) C dX5_wrongPapers_55 hk ?_
            refine r_goto (pc := 58) C (tgt := 13) dX5_wrongPapers_58 (by decide) ?_
            first
            | (have e1 : wpC σ (k + 1) = wpC σ k + 1 := iF_t (by grind)
               rw [← e1]; exact ih (k + 1) _ (by omega) (by omega))
            | (have e1 : wpC σ (k + 1) = wpC σ k := iF_f (by grind)
               rw [← e1]; exact ih (k + 1) _ (by omega) (by omega))
          · refine r_aload5 (pc := 39) C dX5_wrongPapers_39 ?_
            refine gX5_296 (pc := 41) C hT (by assumption) dX5_wrongPapers_41 ?_
            refine r_aload5 (pc := 44) C dX5_wrongPapers_44 ?_
            refine gX5_299 (pc := 46) C hT (by assumption) dX5_wrongPapers_46 ?_
            refine r_icmp_eq (pc := 49) C (tgt := 55) dX5_wrongPapers_49 (by decide) (fun c_49 => ?_) (fun c_49 => ?_)
            · refine r_iinc4 (pc := 55) C dX5_wrongPapers_55 hk ?_
              refine r_goto (pc := 58) C (tgt := 13) dX5_wrongPapers_58 (by decide) ?_
              first
              | (have e1 : wpC σ (k + 1) = wpC σ k + 1 := iF_t (by grind)
                 rw [← e1]; exact ih (k + 1) _ (by omega) (by omega))
              | (have e1 : wpC σ (k + 1) = wpC σ k := iF_f (by grind)
                 rw [← e1]; exact ih (k + 1) _ (by omega) (by omega))
            · refine r_iinc1 (pc := 52) C dX5_wrongPapers_52 (v := wpC σ k + 1) rfl ?_
              refine r_iinc4 (pc := 55) C dX5_wrongPapers_55 hk ?_
              refine r_goto (pc := 58) C (tgt := 13) dX5_wrongPapers_58 (by decide) ?_
              first
              | (have e1 : wpC σ (k + 1) = wpC σ k + 1 := iF_t (by grind)
                 rw [← e1]; exact ih (k + 1) _ (by omega) (by omega))
              | (have e1 : wpC σ (k + 1) = wpC σ k := iF_f (by grind)
                 rw [← e1]; exact ih (k + 1) _ (by omega) (by omega))
  refine r_iconst (pc := 0) C (v := 0) dX5_wrongPapers_0 (by decide) ?_
  refine r_istore1 (pc := 1) C dX5_wrongPapers_1 ?_
  refine r_aload0 (pc := 2) C dX5_wrongPapers_2 ?_
  refine gX5_47 (pc := 3) C hT dX5_wrongPapers_3 ?_
  refine r_astore2 (pc := 6) C dX5_wrongPapers_6 ?_
  refine r_aload2 (pc := 7) C dX5_wrongPapers_7 ?_
  refine l11 (pc := 8) C hT dX5_wrongPapers_8 ?_
  refine r_istore3 (pc := 9) C dX5_wrongPapers_9 ?_
  refine r_iconst (pc := 10) C (v := 0) dX5_wrongPapers_10 (by decide) ?_
  refine r_istore4 (pc := 11) C dX5_wrongPapers_11 ?_
  exact loop 81 0 _ (by omega) (by omega)

set_option maxRecDepth 100000 in
set_option maxHeartbeats 4000000 in
theorem c_X5_knownStone (l : Launch) (D : Gt) (hfl : l.stackTraces = false) (T : List Nat) (ad : Nat → Nat) (σ : Mm) {nr ng : Nat} (hT : TG nr ng T) (hp : PRs nr σ) (x : Int32) : KQ D l yX5_knownStone (uws yX5_knownStone cX5_knownStone 3 (some (.object "DiamondBook$Rough"))) (RM 6 1 6) [.ref (ad 0), .int x] (T, ad, cO D ad σ) (fun r S1 => ∃ i, i < nr ∧ x = nI i ∧ r = some (ad (100 + i)) ∧ S1 = (T, ad, cO D ad σ)) (fun E => E = sIOB ∧ ¬ (0 ≤ x ∧ x < nI nr)) 1 6 := by
  refine KQ_of (own := RX5) (L0 := [some (.ref (ad 0)), some (.int x), none]) (by decide +kernel) rfl (catc rfl (catc rfl cat0)) (Nat.le_of_ble_eq_true rfl) rfl ?_
  intro p e s m args below meth c A hnm C
  refine r_iload1 (pc := 0) C dX5_knownStone_0 ?_
  refine r_aload0 (pc := 1) C dX5_knownStone_1 ?_
  refine gX5_15 (pc := 2) C hT dX5_knownStone_2 ?_
  refine l2 (pc := 5) C hT dX5_knownStone_5 ?_
  refine kX5_74 (pc := 6) C (c_X5_isIn l D _ _ _) dX5_knownStone_6 (Nat.le_of_ble_eq_true rfl) (by decide) ?_
  rintro _ _ ⟨rfl, rfl⟩
  refine r_if_eq_b (pc := 9) C (tgt := 21) dX5_knownStone_9 (by decide) (fun c_9 => ?_) (fun c_9 => ?_)
  · have h40 := hT.1
    have h80 := hT.2.1
    refine r_null (pc := 21) C dX5_knownStone_21 ?_
    refine r_astoren2 (pc := 22) C dX5_knownStone_22 ?_
    refine r_aloadn2 (pc := 23) C dX5_knownStone_23 ?_
    refine r_ifnonnull_n (pc := 24) C dX5_knownStone_24 ?_
    exact r_thrW_IOB C hfl (List.mem_of_getElem? (i := 3) rfl) dX5_knownStone_27 dX5_knownStone_30 dX5_knownStone_31 dX5_knownStone_34 dX5_knownStone_37 ⟨by decide, Nat.le_of_ble_eq_true rfl, by decide, by decide, by decide, by decide⟩ (⟨rfl, by first | (rintro ⟨q1, q2⟩; exact c_9 ⟨q1, Int32.lt_of_lt_of_le q2 (nI_le (by omega) (by decide))⟩) | (rintro ⟨q1, q2⟩; exact absurd c_17 ((hp j hj).mpr ((nI_ltI (by omega) (by omega)).mp q2)))⟩) rfl
  · obtain ⟨j, hj, rfl⟩ := ix_of (N := 40) (by decide) c_9
    have h40 := hT.1
    have h80 := hT.2.1
    refine r_aload0 (pc := 12) C dX5_knownStone_12 ?_
    refine gX5_15 (pc := 13) C hT dX5_knownStone_13 ?_
    refine r_iload1 (pc := 16) C dX5_knownStone_16 ?_
    refine a2 (pc := 17) C hT rfl hj dX5_knownStone_17 (fun c_17 => ?_) (fun c_17 => ?_)
    · refine r_goto (pc := 18) C (tgt := 22) dX5_knownStone_18 (by decide) ?_
      refine r_astoren2 (pc := 22) C dX5_knownStone_22 ?_
      refine r_aloadn2 (pc := 23) C dX5_knownStone_23 ?_
      refine r_ifnonnull_n (pc := 24) C dX5_knownStone_24 ?_
      exact r_thrW_IOB C hfl (List.mem_of_getElem? (i := 3) rfl) dX5_knownStone_27 dX5_knownStone_30 dX5_knownStone_31 dX5_knownStone_34 dX5_knownStone_37 ⟨by decide, Nat.le_of_ble_eq_true rfl, by decide, by decide, by decide, by decide⟩ (⟨rfl, by first | (rintro ⟨q1, q2⟩; exact c_9 ⟨q1, Int32.lt_of_lt_of_le q2 (nI_le (by omega) (by decide))⟩) | (rintro ⟨q1, q2⟩; exact absurd c_17 ((hp j hj).mpr ((nI_ltI (by omega) (by omega)).mp q2)))⟩) rfl
    · refine r_goto (pc := 18) C (tgt := 22) dX5_knownStone_18 (by decide) ?_
      refine r_astore2 (pc := 22) C dX5_knownStone_22 ?_
      refine r_aload2 (pc := 23) C dX5_knownStone_23 ?_
      refine r_ifnonnull_r (pc := 24) C (tgt := 38) dX5_knownStone_24 (by decide) ?_
      refine r_aload2 (pc := 38) C dX5_knownStone_38 ?_
      exact r_qret C (r := some _) rfl dX5_knownStone_39 (⟨j, (hp j hj).mp c_17, rfl, rfl, rfl⟩) (by decide) (by decide)

set_option maxRecDepth 100000 in
set_option maxHeartbeats 4000000 in
theorem c_X5_knownGem (l : Launch) (D : Gt) (hfl : l.stackTraces = false) (T : List Nat) (ad : Nat → Nat) (σ : Mm) {nr ng : Nat} (hT : TG nr ng T) (hg : PGs ng σ) (x : Int32) : KQ D l yX5_knownGem (uws yX5_knownGem cX5_knownGem 3 (some (.object "DiamondBook$Gem"))) (RM 6 1 6) [.ref (ad 0), .int x] (T, ad, cO D ad σ) (fun r S1 => ∃ i, i < ng ∧ x = nI i ∧ r = some (ad (200 + i)) ∧ S1 = (T, ad, cO D ad σ)) (fun E => E = sIOB ∧ ¬ (0 ≤ x ∧ x < nI ng)) 1 6 := by
  refine KQ_of (own := RX5) (L0 := [some (.ref (ad 0)), some (.int x), none]) (by decide +kernel) rfl (catc rfl (catc rfl cat0)) (Nat.le_of_ble_eq_true rfl) rfl ?_
  intro p e s m args below meth c A hnm C
  refine r_iload1 (pc := 0) C dX5_knownGem_0 ?_
  refine r_aload0 (pc := 1) C dX5_knownGem_1 ?_
  refine gX5_47 (pc := 2) C hT dX5_knownGem_2 ?_
  refine l11 (pc := 5) C hT dX5_knownGem_5 ?_
  refine kX5_74 (pc := 6) C (c_X5_isIn l D _ _ _) dX5_knownGem_6 (Nat.le_of_ble_eq_true rfl) (by decide) ?_
  rintro _ _ ⟨rfl, rfl⟩
  refine r_if_eq_b (pc := 9) C (tgt := 21) dX5_knownGem_9 (by decide) (fun c_9 => ?_) (fun c_9 => ?_)
  · have h40 := hT.1
    have h80 := hT.2.1
    refine r_null (pc := 21) C dX5_knownGem_21 ?_
    refine r_astoren2 (pc := 22) C dX5_knownGem_22 ?_
    refine r_aloadn2 (pc := 23) C dX5_knownGem_23 ?_
    refine r_ifnonnull_n (pc := 24) C dX5_knownGem_24 ?_
    exact r_thrW_IOB C hfl (List.mem_of_getElem? (i := 8) rfl) dX5_knownGem_27 dX5_knownGem_30 dX5_knownGem_31 dX5_knownGem_34 dX5_knownGem_37 ⟨by decide, Nat.le_of_ble_eq_true rfl, by decide, by decide, by decide, by decide⟩ (⟨rfl, by first | (rintro ⟨q1, q2⟩; exact c_9 ⟨q1, Int32.lt_of_lt_of_le q2 (nI_le (by omega) (by decide))⟩) | (rintro ⟨q1, q2⟩; exact absurd c_17 ((hg j hj).mpr ((nI_ltI (by omega) (by omega)).mp q2)))⟩) rfl
  · obtain ⟨j, hj, rfl⟩ := ix_of (N := 80) (by decide) c_9
    have h40 := hT.1
    have h80 := hT.2.1
    refine r_aload0 (pc := 12) C dX5_knownGem_12 ?_
    refine gX5_47 (pc := 13) C hT dX5_knownGem_13 ?_
    refine r_iload1 (pc := 16) C dX5_knownGem_16 ?_
    refine a11 (pc := 17) C hT rfl hj dX5_knownGem_17 (fun c_17 => ?_) (fun c_17 => ?_)
    · refine r_goto (pc := 18) C (tgt := 22) dX5_knownGem_18 (by decide) ?_
      refine r_astoren2 (pc := 22) C dX5_knownGem_22 ?_
      refine r_aloadn2 (pc := 23) C dX5_knownGem_23 ?_
      refine r_ifnonnull_n (pc := 24) C dX5_knownGem_24 ?_
      exact r_thrW_IOB C hfl (List.mem_of_getElem? (i := 8) rfl) dX5_knownGem_27 dX5_knownGem_30 dX5_knownGem_31 dX5_knownGem_34 dX5_knownGem_37 ⟨by decide, Nat.le_of_ble_eq_true rfl, by decide, by decide, by decide, by decide⟩ (⟨rfl, by first | (rintro ⟨q1, q2⟩; exact c_9 ⟨q1, Int32.lt_of_lt_of_le q2 (nI_le (by omega) (by decide))⟩) | (rintro ⟨q1, q2⟩; exact absurd c_17 ((hg j hj).mpr ((nI_ltI (by omega) (by omega)).mp q2)))⟩) rfl
    · refine r_goto (pc := 18) C (tgt := 22) dX5_knownGem_18 (by decide) ?_
      refine r_astore2 (pc := 22) C dX5_knownGem_22 ?_
      refine r_aload2 (pc := 23) C dX5_knownGem_23 ?_
      refine r_ifnonnull_r (pc := 24) C (tgt := 38) dX5_knownGem_24 (by decide) ?_
      refine r_aload2 (pc := 38) C dX5_knownGem_38 ?_
      exact r_qret C (r := some _) rfl dX5_knownGem_39 (⟨j, (hg j hj).mp c_17, rfl, rfl, rfl⟩) (by decide) (by decide)


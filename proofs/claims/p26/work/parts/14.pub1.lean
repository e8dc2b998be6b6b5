set_option maxRecDepth 100000 in
set_option maxHeartbeats 4000000 in
theorem c_X5_parcel (l : Launch) (D : Gt) (hfl : l.stackTraces = false) (T : List Nat) (ad : Nat → Nat) (σ : Mm) {nr ng np nb : Nat} (hT : TG nr ng T) (hI : IC nr ng np nb σ) (x : Int32) : KI D l yX5_parcel (uws yX5_parcel cX5_parcel 3 (some .int)) (RM 9 40 400) [.ref (ad 0), .int x] (T, ad, cO D ad σ) (fun r S1 => (∃ j, j < 4 ∧ x = nI j) ∧ np < 12 ∧ r = nI np ∧ S1 = (T, ad, cO D ad (up (up σ 1 np x) 0 1 (nI (np + 1))))) (fun E => (E = sIOB ∧ ¬ (0 ≤ x ∧ x < 4)) ∨ (E = sISE ∧ (0 ≤ x ∧ x < 4) ∧ ¬ np < 12)) 40 400 := by
  refine KI_of (own := RX5) (L0 := [some (.ref (ad 0)), some (.int x), none]) (by decide +kernel) rfl (catc rfl (catc rfl cat0)) (Nat.le_of_ble_eq_true rfl) rfl ?_
  intro p e s m args below meth c A hnm C
  have hp1 := hI.2.2.1.1
  have hp2 := hI.2.2.1.2
  refine r_iload1 (pc := 0) C dX5_parcel_0 ?_
  refine r_iconst (pc := 1) C (v := 4) dX5_parcel_1 (by decide) ?_
  refine kX5_66x (pc := 2) C (c_X5_needIndex l D hfl _ _ _) dX5_parcel_2 (Nat.le_of_ble_eq_true rfl) (by decide) (fun E h => Or.inl h) (fun _ => rfl) ?_
  rintro _ ⟨h1, rfl⟩
  obtain ⟨j, hj, rfl⟩ := ix_of (N := 4) (by decide) h1
  refine r_aload0 (pc := 5) C dX5_parcel_5 ?_
  refine gX5_70 (pc := 6) C hT dX5_parcel_6 ?_
  refine r_aload0 (pc := 9) C dX5_parcel_9 ?_
  refine gX5_9 (pc := 10) C hT dX5_parcel_10 ?_
  refine l1 (pc := 13) C hT dX5_parcel_13 ?_
  refine kX5_74 (pc := 14) C (c_X5_isIn l D _ _ _) dX5_parcel_14 (Nat.le_of_ble_eq_true rfl) (by decide) ?_
  rintro _ _ ⟨rfl, rfl⟩
  refine r_if_ne_b (pc := 17) C (tgt := 30) dX5_parcel_17 (by decide) (fun c_17 => ?_) (fun c_17 => ?_)
  · have hlt : np < 12 := by
      have q := c_17.2
      rw [hp1] at q
      exact (nI_ltI (by omega) (by decide)).mp q
    refine r_aload0 (pc := 30) C dX5_parcel_30 ?_
    refine gX5_70 (pc := 31) C hT dX5_parcel_31 ?_
    refine r_istore2 (pc := 34) C dX5_parcel_34 ?_
    refine r_aload0 (pc := 35) C dX5_parcel_35 ?_
    refine gX5_9 (pc := 36) C hT dX5_parcel_36 ?_
    refine r_iload2 (pc := 39) C dX5_parcel_39 ?_
    refine r_iload1 (pc := 40) C dX5_parcel_40 ?_
    refine b1 (pc := 41) C hT hp1 hlt dX5_parcel_41 ?_
    refine r_aload0 (pc := 42) C dX5_parcel_42 ?_
    refine r_dup (pc := 43) C dX5_parcel_43 rfl ?_
    refine gX5_70 (pc := 44) C hT dX5_parcel_44 ?_
    refine r_iconst (pc := 47) C (v := 1) dX5_parcel_47 (by decide) ?_
    refine r_iadd (pc := 48) C dX5_parcel_48 ?_
    rw [show (up σ 1 np (nI j)) 0 1 + 1 = nI (np + 1) by rw [show (up σ 1 np (nI j)) 0 1 = σ 0 1 from rfl, hp1]; exact nI_1 np]
    refine pX5_70 (pc := 49) C hT dX5_parcel_49 ?_
    refine r_iload2 (pc := 52) C dX5_parcel_52 ?_
    exact r_iret C rfl dX5_parcel_53 (⟨⟨j, hj, rfl⟩, hlt, hp1, rfl⟩) (by decide) (by decide)
  · exact r_thr_ISE C hfl (List.mem_of_getElem? (i := 1) rfl) dX5_parcel_20 dX5_parcel_23 dX5_parcel_24 dX5_parcel_26 dX5_parcel_29 ⟨by decide, Nat.le_of_ble_eq_true rfl, by decide, by decide, by decide, by decide⟩ (Or.inr ⟨rfl, h1, fun q => c_17 (by rw [hp1]; exact ⟨nI_pos' (by omega), nI_lt q (by decide)⟩)⟩) rfl

set_option maxRecDepth 100000 in
set_option maxHeartbeats 4000000 in
theorem c_X5_drift (l : Launch) (D : Gt) (hfl : l.stackTraces = false) (T : List Nat) (ad : Nat → Nat) (σ : Mm) {nr ng np nb : Nat} (hT : TG nr ng T) (hI : IC nr ng np nb σ) (x y : Int32) : KI D l yX5_drift (uws yX5_drift cX5_drift 4 (some .int)) (RM 9 40 400) [.ref (ad 0), .int x, .int y] (T, ad, cO D ad σ) (fun r S1 => ∃ j, j < 4 ∧ x = nI j ∧ ((-2) ≤ y ∧ y ≤ 2) ∧ r = σ 3 j ∧ S1 = (T, ad, cO D ad (up σ 3 j y))) (fun E => (E = sIOB ∧ ¬ (0 ≤ x ∧ x < nI 4)) ∨ (E = sIAE ∧ (0 ≤ x ∧ x < nI 4) ∧ ¬ ((-2) ≤ y ∧ y ≤ 2))) 40 400 := by
  refine KI_of (own := RX5) (L0 := [some (.ref (ad 0)), some (.int x), some (.int y), none]) (by decide +kernel) rfl (catc rfl (catc rfl (catc rfl cat0))) (Nat.le_of_ble_eq_true rfl) rfl ?_
  intro p e s m args below meth c A hnm C
  refine r_iload1 (pc := 0) C dX5_drift_0 ?_
  refine r_aload0 (pc := 1) C dX5_drift_1 ?_
  refine gX5_19 (pc := 2) C hT dX5_drift_2 ?_
  refine l3 (pc := 5) C hT dX5_drift_5 ?_
  refine kX5_66x (pc := 6) C (c_X5_needIndex l D hfl _ _ _) dX5_drift_6 (Nat.le_of_ble_eq_true rfl) (by decide) (fun E h => Or.inl h) (fun _ => rfl) ?_
  rintro _ ⟨h1, rfl⟩
  obtain ⟨j, hj, rfl⟩ := ix_of (N := 4) (by decide) h1
  refine r_iload2 (pc := 9) C dX5_drift_9 ?_
  refine r_bipush (pc := 10) C (v := (-2)) dX5_drift_10 (by decide) ?_
  refine r_iconst (pc := 12) C (v := 2) dX5_drift_12 (by decide) ?_
  refine kX5_85x (pc := 13) C (c_X5_needRange l D hfl _ _ _ _) dX5_drift_13 (Nat.le_of_ble_eq_true rfl) (by decide) (fun E h => Or.inr ⟨h.1, h1, h.2⟩) (fun _ => rfl) ?_
  rintro _ ⟨h2, rfl⟩
  refine r_aload0 (pc := 16) C dX5_drift_16 ?_
  refine gX5_19 (pc := 17) C hT dX5_drift_17 ?_
  refine r_iload1 (pc := 20) C dX5_drift_20 ?_
  refine a3 (pc := 21) C hT rfl (by omega) dX5_drift_21 ?_
  refine r_istore3 (pc := 22) C dX5_drift_22 ?_
  refine r_aload0 (pc := 23) C dX5_drift_23 ?_
  refine gX5_19 (pc := 24) C hT dX5_drift_24 ?_
  refine r_iload1 (pc := 27) C dX5_drift_27 ?_
  refine r_iload2 (pc := 28) C dX5_drift_28 ?_
  refine b3 (pc := 29) C hT rfl (by omega) dX5_drift_29 ?_
  refine r_iload3 (pc := 30) C dX5_drift_30 ?_
  exact r_iret C rfl dX5_drift_31 (⟨j, hj, rfl, h2, rfl, rfl⟩) (by decide) (by decide)

set_option maxRecDepth 100000 in
set_option maxHeartbeats 4000000 in
theorem c_X5_scale (l : Launch) (D : Gt) (hfl : l.stackTraces = false) (T : List Nat) (ad : Nat → Nat) (σ : Mm) {nr ng np nb : Nat} (hT : TG nr ng T) (hI : IC nr ng np nb σ) (x y : Int32) : KI D l yX5_scale (uws yX5_scale cX5_scale 4 (some .int)) (RM 9 40 400) [.ref (ad 0), .int x, .int y] (T, ad, cO D ad σ) (fun r S1 => ∃ j, j < 3 ∧ x = nI j ∧ ((-1) ≤ y ∧ y ≤ 1) ∧ r = σ 12 j ∧ S1 = (T, ad, cO D ad (up σ 12 j y))) (fun E => (E = sIOB ∧ ¬ (0 ≤ x ∧ x < nI 3)) ∨ (E = sIAE ∧ (0 ≤ x ∧ x < nI 3) ∧ ¬ ((-1) ≤ y ∧ y ≤ 1))) 40 400 := by
  refine KI_of (own := RX5) (L0 := [some (.ref (ad 0)), some (.int x), some (.int y), none]) (by decide +kernel) rfl (catc rfl (catc rfl (catc rfl cat0))) (Nat.le_of_ble_eq_true rfl) rfl ?_
  intro p e s m args below meth c A hnm C
  refine r_iload1 (pc := 0) C dX5_scale_0 ?_
  refine r_aload0 (pc := 1) C dX5_scale_1 ?_
  refine gX5_51 (pc := 2) C hT dX5_scale_2 ?_
  refine l12 (pc := 5) C hT dX5_scale_5 ?_
  refine kX5_66x (pc := 6) C (c_X5_needIndex l D hfl _ _ _) dX5_scale_6 (Nat.le_of_ble_eq_true rfl) (by decide) (fun E h => Or.inl h) (fun _ => rfl) ?_
  rintro _ ⟨h1, rfl⟩
  obtain ⟨j, hj, rfl⟩ := ix_of (N := 3) (by decide) h1
  refine r_iload2 (pc := 9) C dX5_scale_9 ?_
  refine r_iconst (pc := 10) C (v := (-1)) dX5_scale_10 (by decide) ?_
  refine r_iconst (pc := 11) C (v := 1) dX5_scale_11 (by decide) ?_
  refine kX5_85x (pc := 12) C (c_X5_needRange l D hfl _ _ _ _) dX5_scale_12 (Nat.le_of_ble_eq_true rfl) (by decide) (fun E h => Or.inr ⟨h.1, h1, h.2⟩) (fun _ => rfl) ?_
  rintro _ ⟨h2, rfl⟩
  refine r_aload0 (pc := 15) C dX5_scale_15 ?_
  refine gX5_51 (pc := 16) C hT dX5_scale_16 ?_
  refine r_iload1 (pc := 19) C dX5_scale_19 ?_
  refine a12 (pc := 20) C hT rfl (by omega) dX5_scale_20 ?_
  refine r_istore3 (pc := 21) C dX5_scale_21 ?_
  refine r_aload0 (pc := 22) C dX5_scale_22 ?_
  refine gX5_51 (pc := 23) C hT dX5_scale_23 ?_
  refine r_iload1 (pc := 26) C dX5_scale_26 ?_
  refine r_iload2 (pc := 27) C dX5_scale_27 ?_
  refine b12 (pc := 28) C hT rfl (by omega) dX5_scale_28 ?_
  refine r_iload3 (pc := 29) C dX5_scale_29 ?_
  exact r_iret C rfl dX5_scale_30 (⟨j, hj, rfl, h2, rfl, rfl⟩) (by decide) (by decide)

set_option maxRecDepth 100000 in
set_option maxHeartbeats 4000000 in
theorem c_X5_sort (l : Launch) (D : Gt) (hfl : l.stackTraces = false) (T : List Nat) (ad : Nat → Nat) (σ : Mm) {nr ng np nb : Nat} (hT : TG nr ng T) (hI : IC nr ng np nb σ) (x y : Int32) : KI D l yX5_sort (uws yX5_sort cX5_sort 5 (some .int)) (RM 9 40 400) [.ref (ad 0), .int x, .int y] (T, ad, cO D ad σ) (fun r S1 => ∃ j i, j < 4 ∧ i < nr ∧ x = nI j ∧ y = nI i ∧ (σ 28 i = 0 ∧ ¬ 3 ≤ σ 33 i ∧ (σ 32 i >>> (nI j &&& 31)) &&& 1 = 0) ∧ r = (mxI 0 (mnI 18 (σ 24 i + σ 25 i + σ 3 j))) ∧ S1 = (T, ad, cO D ad (up (up (up (up (up σ 32 i (σ 32 i ||| ((1 : Int32) <<< (nI j &&& 31)))) 33 i (σ 33 i + 1)) 34 i (iF (σ 33 i = 0) (mxI 0 (mnI 18 (σ 24 i + σ 25 i + σ 3 j))) (σ 34 i))) 35 i (iF (σ 33 i = 1) (mxI 0 (mnI 18 (σ 24 i + σ 25 i + σ 3 j))) (σ 35 i))) 36 i (iF (¬ σ 33 i = 0 ∧ ¬ σ 33 i = 1) (mxI 0 (mnI 18 (σ 24 i + σ 25 i + σ 3 j))) (σ 36 i))))) (fun E => (E = sIOB ∧ ¬ ((0 ≤ x ∧ x < nI 4) ∧ (0 ≤ y ∧ y < nI nr))) ∨ (E = sISE ∧ ((0 ≤ x ∧ x < nI 4) ∧ (0 ≤ y ∧ y < nI nr)) ∧ ∃ i, i < nr ∧ y = nI i ∧ ¬ (σ 28 i = 0 ∧ ¬ 3 ≤ σ 33 i ∧ (σ 32 i >>> (x &&& 31)) &&& 1 = 0))) 40 400 := by
  refine KI_of (own := RX5) (L0 := [some (.ref (ad 0)), some (.int x), some (.int y), none, none]) (by decide +kernel) rfl (catc rfl (catc rfl (catc rfl cat0))) (Nat.le_of_ble_eq_true rfl) rfl ?_
  intro p e s m args below meth c A hnm C
  refine r_iload1 (pc := 0) C dX5_sort_0 ?_
  refine r_aload0 (pc := 1) C dX5_sort_1 ?_
  refine gX5_19 (pc := 2) C hT dX5_sort_2 ?_
  refine l3 (pc := 5) C hT dX5_sort_5 ?_
  refine kX5_66x (pc := 6) C (c_X5_needIndex l D hfl _ _ _) dX5_sort_6 (Nat.le_of_ble_eq_true rfl) (by decide) (fun E h => Or.inl ⟨h.1, fun q => h.2 q.1⟩) (fun _ => rfl) ?_
  rintro _ ⟨h1, rfl⟩
  obtain ⟨j, hj, rfl⟩ := ix_of (N := 4) (by decide) h1
  refine r_aload0 (pc := 9) C dX5_sort_9 ?_
  refine r_iload2 (pc := 10) C dX5_sort_10 ?_
  refine kX5_105x (pc := 11) C (c_X5_knownStone l D hfl _ _ _ hT hI.1 _) (hT.f (by decide)) rfl dX5_sort_11 (Nat.le_of_ble_eq_true rfl) (by decide) (fun E h => Or.inl ⟨h.1, fun q => h.2 q.2⟩) (fun _ => rfl) ?_
  rintro _ _ ⟨i, hi, rfl, rfl, rfl⟩
  have h_i : 0 ≤ nI i ∧ nI i < nI nr := ⟨nI_pos' (by have := hT.1; omega), nI_lt (by omega) (by have := hT.1; omega)⟩
  refine r_astore3 (pc := 14) C dX5_sort_14 ?_
  refine r_aload3 (pc := 15) C dX5_sort_15 ?_
  refine gX5_109 (pc := 16) C hT (by assumption) dX5_sort_16 ?_
  refine r_if_ne (pc := 19) C (tgt := 43) dX5_sort_19 (by decide) (fun c_19 => ?_) (fun c_19 => ?_)
  · exact r_thr_ISE C hfl (List.mem_of_getElem? (i := 4) rfl) dX5_sort_43 dX5_sort_46 dX5_sort_47 dX5_sort_49 dX5_sort_52 ⟨by decide, Nat.le_of_ble_eq_true rfl, by decide, by decide, by decide, by decide⟩ (Or.inr ⟨rfl, ⟨h1, h_i⟩, i, hi, rfl, by grind⟩) rfl
  · refine r_aload3 (pc := 22) C dX5_sort_22 ?_
    refine gX5_112 (pc := 23) C hT (by assumption) dX5_sort_23 ?_
    refine kX5_116 (pc := 26) C (c_X1_isFull l D _ _ _ (hT.s (by assumption)) (cO_s2 hT (by assumption))) (hT.s (by assumption)) (cO_s2 hT (by assumption)) dX5_sort_26 (Nat.le_of_ble_eq_true rfl) (by decide) ?_
    rintro _ _ ⟨rfl, rfl⟩
    refine r_if_ne_b (pc := 29) C (tgt := 43) dX5_sort_29 (by decide) (fun c_29 => ?_) (fun c_29 => ?_)
    · exact r_thr_ISE C hfl (List.mem_of_getElem? (i := 4) rfl) dX5_sort_43 dX5_sort_46 dX5_sort_47 dX5_sort_49 dX5_sort_52 ⟨by decide, Nat.le_of_ble_eq_true rfl, by decide, by decide, by decide, by decide⟩ (Or.inr ⟨rfl, ⟨h1, h_i⟩, i, hi, rfl, by grind⟩) rfl
    · refine r_aload3 (pc := 32) C dX5_sort_32 ?_
      refine gX5_112 (pc := 33) C hT (by assumption) dX5_sort_33 ?_
      refine r_iload1 (pc := 36) C dX5_sort_36 ?_
      refine kX5_122 (pc := 37) C (c_X1_isBy l D _ _ _ (hT.s (by assumption)) (cO_s2 hT (by assumption)) _) (hT.s (by assumption)) (cO_s2 hT (by assumption)) dX5_sort_37 (Nat.le_of_ble_eq_true rfl) (by decide) ?_
      rintro _ _ ⟨rfl, rfl⟩
      refine r_if_eq_b (pc := 40) C (tgt := 53) dX5_sort_40 (by decide) (fun c_40 => ?_) (fun c_40 => ?_)
      · refine r_aload3 (pc := 53) C dX5_sort_53 ?_
        refine gX5_128 (pc := 54) C hT (by assumption) dX5_sort_54 ?_
        refine r_aload3 (pc := 57) C dX5_sort_57 ?_
        refine gX5_131 (pc := 58) C hT (by assumption) dX5_sort_58 ?_
        refine r_iadd (pc := 61) C dX5_sort_61 ?_
        refine r_aload0 (pc := 62) C dX5_sort_62 ?_
        refine gX5_19 (pc := 63) C hT dX5_sort_63 ?_
        refine r_iload1 (pc := 66) C dX5_sort_66 ?_
        refine a3 (pc := 67) C hT rfl (by omega) dX5_sort_67 ?_
        refine r_iadd (pc := 68) C dX5_sort_68 ?_
        refine r_iconst (pc := 69) C (v := 0) dX5_sort_69 (by decide) ?_
        refine r_bipush (pc := 70) C (v := 18) dX5_sort_70 (by decide) ?_
        refine kX5_134 (pc := 72) C (c_X5_within l D _ _ _ _) dX5_sort_72 (Nat.le_of_ble_eq_true rfl) (by decide) ?_
        rintro _ _ ⟨rfl, rfl⟩
        refine r_istore4 (pc := 75) C dX5_sort_75 ?_
        refine r_aload3 (pc := 77) C dX5_sort_77 ?_
        refine gX5_112 (pc := 78) C hT (by assumption) dX5_sort_78 ?_
        refine r_iload1 (pc := 81) C dX5_sort_81 ?_
        refine r_iload4 (pc := 82) C dX5_sort_82 ?_
        refine kX5_138 (pc := 84) C (c_X1_add l D _ _ _ (hT.s (by assumption)) (cO_s2 hT (by assumption)) _ _) (hT.s (by assumption)) (cO_s2 hT (by assumption)) dX5_sort_84 (Nat.le_of_ble_eq_true rfl) (by decide) ?_
        rintro _ rfl
        rw [opn_s hT hi (y0 := _) (y1 := _) (y2 := _) (y3 := _) (y4 := _)]
        refine r_iload4 (pc := 87) C dX5_sort_87 ?_
        exact r_iret C rfl dX5_sort_89 (⟨j, i, hj, hi, rfl, rfl, ⟨by assumption, by assumption, by grind⟩, rfl, rfl⟩) (by decide) (by decide)
      · exact r_thr_ISE C hfl (List.mem_of_getElem? (i := 4) rfl) dX5_sort_43 dX5_sort_46 dX5_sort_47 dX5_sort_49 dX5_sort_52 ⟨by decide, Nat.le_of_ble_eq_true rfl, by decide, by decide, by decide, by decide⟩ (Or.inr ⟨rfl, ⟨h1, h_i⟩, i, hi, rfl, by grind⟩) rfl

set_option maxRecDepth 100000 in
set_option maxHeartbeats 4000000 in
theorem c_X5_price (l : Launch) (D : Gt) (hfl : l.stackTraces = false) (T : List Nat) (ad : Nat → Nat) (σ : Mm) {nr ng np nb : Nat} (hT : TG nr ng T) (hI : IC nr ng np nb σ) (x y v : Int32) : KI D l yX5_price (uws yX5_price cX5_price 5 (some .int)) (RM 9 40 400) [.ref (ad 0), .int x, .int y, .int v] (T, ad, cO D ad σ) (fun r S1 => ∃ j i, j < 4 ∧ i < 19 ∧ x = nI j ∧ y = nI i ∧ (1 ≤ v ∧ v ≤ 99999) ∧ r = σ 5 (19 * j + i) ∧ S1 = (T, ad, cO D ad (up σ 5 (19 * j + i) v))) (fun E => (E = sIOB ∧ ¬ ((0 ≤ x ∧ x < 4) ∧ (0 ≤ y ∧ y < 19))) ∨ (E = sIAE ∧ ((0 ≤ x ∧ x < 4) ∧ (0 ≤ y ∧ y < 19)) ∧ ¬ (1 ≤ v ∧ v ≤ 99999))) 40 400 := by
  refine KI_of (own := RX5) (L0 := [some (.ref (ad 0)), some (.int x), some (.int y), some (.int v), none]) (by decide +kernel) rfl (catc rfl (catc rfl (catc rfl (catc rfl cat0)))) (Nat.le_of_ble_eq_true rfl) rfl ?_
  intro p e s m args below meth c A hnm C
  refine r_iload1 (pc := 0) C dX5_price_0 ?_
  refine r_iconst (pc := 1) C (v := 4) dX5_price_1 (by decide) ?_
  refine kX5_66x (pc := 2) C (c_X5_needIndex l D hfl _ _ _) dX5_price_2 (Nat.le_of_ble_eq_true rfl) (by decide) (fun E h => Or.inl ⟨h.1, fun q => h.2 q.1⟩) (fun _ => rfl) ?_
  rintro _ ⟨h1, rfl⟩
  obtain ⟨j, hj, rfl⟩ := ix_of (N := 4) (by decide) h1
  refine r_iload2 (pc := 5) C dX5_price_5 ?_
  refine r_bipush (pc := 6) C (v := 19) dX5_price_6 (by decide) ?_
  refine kX5_66x (pc := 8) C (c_X5_needIndex l D hfl _ _ _) dX5_price_8 (Nat.le_of_ble_eq_true rfl) (by decide) (fun E h => Or.inl ⟨h.1, fun q => h.2 q.2⟩) (fun _ => rfl) ?_
  rintro _ ⟨h2, rfl⟩
  obtain ⟨i, hi, rfl⟩ := ix_of (N := 19) (by decide) h2
  refine r_iload3 (pc := 11) C dX5_price_11 ?_
  refine r_iconst (pc := 12) C (v := 1) dX5_price_12 (by decide) ?_
  refine cX5_141 (pc := 13) C dX5_price_13 ?_
  refine kX5_85x (pc := 15) C (c_X5_needRange l D hfl _ _ _ _) dX5_price_15 (Nat.le_of_ble_eq_true rfl) (by decide) (fun E h => Or.inr ⟨h.1, ⟨h1, h2⟩, h.2⟩) (fun _ => rfl) ?_
  rintro _ ⟨h3, rfl⟩
  refine r_aload0 (pc := 18) C dX5_price_18 ?_
  refine gX5_25 (pc := 19) C hT dX5_price_19 ?_
  refine r_iload1 (pc := 22) C dX5_price_22 ?_
  refine r_iload2 (pc := 23) C dX5_price_23 ?_
  refine kX5_142 (pc := 24) C (c_X2_caratPrice l D _ _ _ hT hj hi) (hT.f (by decide)) rfl dX5_price_24 (Nat.le_of_ble_eq_true rfl) (by decide) ?_
  rintro _ _ ⟨rfl, rfl⟩
  refine r_istore4 (pc := 27) C dX5_price_27 ?_
  refine r_aload0 (pc := 29) C dX5_price_29 ?_
  refine gX5_25 (pc := 30) C hT dX5_price_30 ?_
  refine r_iload1 (pc := 33) C dX5_price_33 ?_
  refine r_iload2 (pc := 34) C dX5_price_34 ?_
  refine r_iload3 (pc := 35) C dX5_price_35 ?_
  refine kX5_146 (pc := 36) C (c_X2_setCaratPrice l D _ _ _ hT hj hi _) (hT.f (by decide)) rfl dX5_price_36 (Nat.le_of_ble_eq_true rfl) (by decide) ?_
  rintro _ rfl
  refine r_iload4 (pc := 39) C dX5_price_39 ?_
  exact r_iret C rfl dX5_price_41 (⟨j, i, hj, hi, rfl, rfl, h3, rfl, rfl⟩) (by decide) (by decide)

set_option maxRecDepth 100000 in
set_option maxHeartbeats 4000000 in
theorem c_X5_value (l : Launch) (D : Gt) (hfl : l.stackTraces = false) (T : List Nat) (ad : Nat → Nat) (σ : Mm) {nr ng np nb : Nat} (hT : TG nr ng T) (hI : IC nr ng np nb σ) (x : Int32) : KI D l yX5_value (uws yX5_value cX5_value 2 (some .int)) (RM 9 2 12) [.ref (ad 0), .int x] (T, ad, cO D ad σ) (fun r S1 => ∃ i, i < nr ∧ x = nI i ∧ r = valC σ i ∧ S1 = (T, ad, cO D ad σ)) (fun E => E = sIOB ∧ ¬ (0 ≤ x ∧ x < nI nr)) 2 12 := by
  refine KI_of (own := RX5) (L0 := [some (.ref (ad 0)), some (.int x)]) (by decide +kernel) rfl (catc rfl (catc rfl cat0)) (Nat.le_of_ble_eq_true rfl) rfl ?_
  intro p e s m args below meth c A hnm C
  refine r_aload0 (pc := 0) C dX5_value_0 ?_
  refine gX5_25 (pc := 1) C hT dX5_value_1 ?_
  refine r_aload0 (pc := 4) C dX5_value_4 ?_
  refine r_iload1 (pc := 5) C dX5_value_5 ?_
  refine kX5_105x (pc := 6) C (c_X5_knownStone l D hfl _ _ _ hT hI.1 _) (hT.f (by decide)) rfl dX5_value_6 (Nat.le_of_ble_eq_true rfl) (by decide) (fun E h => h) (fun _ => rfl) ?_
  rintro _ _ ⟨i, hi, rfl, rfl, rfl⟩
  have h_i : 0 ≤ nI i ∧ nI i < nI nr := ⟨nI_pos' (by have := hT.1; omega), nI_lt (by omega) (by have := hT.1; omega)⟩
  refine kX5_149 (pc := 9) C (c_X2_worthOf l D _ _ _ hT (by assumption) (hI.2.2.2.2.2.2.2.1 _ (by assumption))) (hT.f (by decide)) rfl dX5_value_9 (Nat.le_of_ble_eq_true rfl) (by decide) ?_
  rintro _ _ ⟨rfl, rfl⟩
  exact r_iret C rfl dX5_value_12 (⟨i, hi, rfl, rfl, rfl⟩) (by decide) (by decide)

set_option maxRecDepth 100000 in
set_option maxHeartbeats 4000000 in
theorem c_X5_stoneIs (l : Launch) (D : Gt) (hfl : l.stackTraces = false) (T : List Nat) (ad : Nat → Nat) (σ : Mm) {nr ng np nb : Nat} (hT : TG nr ng T) (hI : IC nr ng np nb σ) (x y : Int32) : KI D l yX5_stoneIs (uws yX5_stoneIs cX5_stoneIs 4 (some .int)) (RM 9 2 12) [.ref (ad 0), .int x, .int y] (T, ad, cO D ad σ) (fun r S1 => ∃ i, i < nr ∧ x = nI i ∧ (0 ≤ y ∧ y ≤ 6) ∧ r = siC σ i y ∧ S1 = (T, ad, cO D ad σ)) (fun E => (E = sIOB ∧ ¬ (0 ≤ x ∧ x < nI nr)) ∨ (E = sIAE ∧ (0 ≤ x ∧ x < nI nr) ∧ ¬ (0 ≤ y ∧ y ≤ 6))) 2 12 := by
  refine KI_of (own := RX5) (L0 := [some (.ref (ad 0)), some (.int x), some (.int y), none]) (by decide +kernel) rfl (catc rfl (catc rfl (catc rfl cat0))) (Nat.le_of_ble_eq_true rfl) rfl ?_
  intro p e s m args below meth c A hnm C
  refine r_aload0 (pc := 0) C dX5_stoneIs_0 ?_
  refine r_iload1 (pc := 1) C dX5_stoneIs_1 ?_
  refine kX5_105x (pc := 2) C (c_X5_knownStone l D hfl _ _ _ hT hI.1 _) (hT.f (by decide)) rfl dX5_stoneIs_2 (Nat.le_of_ble_eq_true rfl) (by decide) (fun E h => Or.inl h) (fun _ => rfl) ?_
  rintro _ _ ⟨i, hi, rfl, rfl, rfl⟩
  have h_i : 0 ≤ nI i ∧ nI i < nI nr := ⟨nI_pos' (by have := hT.1; omega), nI_lt (by omega) (by have := hT.1; omega)⟩
  refine r_astore3 (pc := 5) C dX5_stoneIs_5 ?_
  refine r_iload2 (pc := 6) C dX5_stoneIs_6 ?_
  by_cases hy0 : y = 0
  · refine r_tin (pc := 7) (tgt := 48) C dX5_stoneIs_7 hy0 (by decide) (by decide) rfl (by decide) ?_
    refine r_aload3 (pc := 48) C dX5_stoneIs_48 ?_
    refine gX5_109 (pc := 49) C hT (by assumption) dX5_stoneIs_49 ?_
    exact r_iret C rfl dX5_stoneIs_52 (⟨i, hi, rfl, by subst y; decide, by subst y; simp [siC, iF, bI, *], rfl⟩) (by decide) (by decide)
  · by_cases hy1 : y = 1
    · refine r_tin (pc := 7) (tgt := 53) C dX5_stoneIs_7 hy1 (by decide) (by decide) rfl (by decide) ?_
      refine r_aload3 (pc := 53) C dX5_stoneIs_53 ?_
      refine kX5_153 (pc := 54) C (c_X3_quality l D _ _ _ hT (by assumption)) (hT.r (by assumption)) (cO_ro hT (by assumption)) dX5_stoneIs_54 (Nat.le_of_ble_eq_true rfl) (by decide) ?_
      rintro _ _ ⟨rfl, rfl⟩
      exact r_iret C rfl dX5_stoneIs_57 (⟨i, hi, rfl, by subst y; decide, by subst y; simp [siC, iF, bI, *], rfl⟩) (by decide) (by decide)
    · by_cases hy2 : y = 2
      · refine r_tin (pc := 7) (tgt := 58) C dX5_stoneIs_7 hy2 (by decide) (by decide) rfl (by decide) ?_
        refine r_aload3 (pc := 58) C dX5_stoneIs_58 ?_
        refine kX5_157 (pc := 59) C (c_X3_isDoubtful l D _ _ _ hT (by assumption)) (hT.r (by assumption)) (cO_ro hT (by assumption)) dX5_stoneIs_59 (Nat.le_of_ble_eq_true rfl) (by decide) ?_
        rintro _ _ ⟨rfl, rfl⟩
        refine r_if_eq_b (pc := 62) C (tgt := 69) dX5_stoneIs_62 (by decide) (fun c_62 => ?_) (fun c_62 => ?_)
        · refine r_iconst (pc := 69) C (v := 0) dX5_stoneIs_69 (by decide) ?_
          exact r_iret C rfl dX5_stoneIs_70 (⟨i, hi, rfl, by subst y; decide, by subst y; simp [siC, iF, bI, *], rfl⟩) (by decide) (by decide)
        · refine r_iconst (pc := 65) C (v := 1) dX5_stoneIs_65 (by decide) ?_
          refine r_goto (pc := 66) C (tgt := 70) dX5_stoneIs_66 (by decide) ?_
          exact r_iret C rfl dX5_stoneIs_70 (⟨i, hi, rfl, by subst y; decide, by subst y; simp [siC, iF, bI, *], rfl⟩) (by decide) (by decide)
      · by_cases hy3 : y = 3
        · refine r_tin (pc := 7) (tgt := 71) C dX5_stoneIs_7 hy3 (by decide) (by decide) rfl (by decide) ?_
          refine r_aload3 (pc := 71) C dX5_stoneIs_71 ?_
          refine gX5_160 (pc := 72) C hT (by assumption) dX5_stoneIs_72 ?_
          exact r_iret C rfl dX5_stoneIs_75 (⟨i, hi, rfl, by subst y; decide, by subst y; simp [siC, iF, bI, *], rfl⟩) (by decide) (by decide)
        · by_cases hy4 : y = 4
          · refine r_tin (pc := 7) (tgt := 76) C dX5_stoneIs_7 hy4 (by decide) (by decide) rfl (by decide) ?_
            refine r_aload3 (pc := 76) C dX5_stoneIs_76 ?_
            refine gX5_163 (pc := 77) C hT (by assumption) dX5_stoneIs_77 ?_
            exact r_iret C rfl dX5_stoneIs_80 (⟨i, hi, rfl, by subst y; decide, by subst y; simp [siC, iF, bI, *], rfl⟩) (by decide) (by decide)
          · by_cases hy5 : y = 5
            · refine r_tin (pc := 7) (tgt := 81) C dX5_stoneIs_7 hy5 (by decide) (by decide) rfl (by decide) ?_
              refine r_aload3 (pc := 81) C dX5_stoneIs_81 ?_
              refine gX5_166 (pc := 82) C hT (by assumption) dX5_stoneIs_82 ?_
              exact r_iret C rfl dX5_stoneIs_85 (⟨i, hi, rfl, by subst y; decide, by subst y; simp [siC, iF, bI, *], rfl⟩) (by decide) (by decide)
            · by_cases hy6 : y = 6
              · refine r_tin (pc := 7) (tgt := 86) C dX5_stoneIs_7 hy6 (by decide) (by decide) rfl (by decide) ?_
                refine r_aload3 (pc := 86) C dX5_stoneIs_86 ?_
                refine gX5_169 (pc := 87) C hT (by assumption) dX5_stoneIs_87 ?_
                exact r_iret C rfl dX5_stoneIs_90 (⟨i, hi, rfl, by subst y; decide, by subst y; simp [siC, iF, bI, *], rfl⟩) (by decide) (by decide)
              · refine r_tout (pc := 7) (tgt := 91) C dX5_stoneIs_7 (tsw (N := 7) (by decide) (fun k hk => by
                  rcases (show k = 0 ∨ k = 1 ∨ k = 2 ∨ k = 3 ∨ k = 4 ∨ k = 5 ∨ k = 6 by omega) with rfl | rfl | rfl | rfl | rfl | rfl | rfl
                  · exact hy0
                  · exact hy1
                  · exact hy2
                  · exact hy3
                  · exact hy4
                  · exact hy5
                  · exact hy6)) (by decide) ?_
                exact r_thr_IAE C hfl (List.mem_of_getElem? (i := 15) rfl) dX5_stoneIs_91 dX5_stoneIs_94 dX5_stoneIs_95 dX5_stoneIs_97 dX5_stoneIs_100 ⟨by decide, Nat.le_of_ble_eq_true rfl, by decide, by decide, by decide, by decide⟩ (Or.inr ⟨rfl, h_i, by grind⟩) rfl

set_option maxRecDepth 100000 in
set_option maxHeartbeats 4000000 in
theorem c_X5_offered (l : Launch) (D : Gt) (hfl : l.stackTraces = false) (T : List Nat) (ad : Nat → Nat) (σ : Mm) {nr ng np nb : Nat} (hT : TG nr ng T) (hI : IC nr ng np nb σ) (x : Int32) : KI D l yX5_offered (uws yX5_offered cX5_offered 2 (some .int)) (RM 9 2 12) [.ref (ad 0), .int x] (T, ad, cO D ad σ) (fun r S1 => ∃ j, j < 5 ∧ x = nI j ∧ r = σ 7 j ∧ S1 = (T, ad, cO D ad σ)) (fun E => E = sIOB ∧ ¬ (0 ≤ x ∧ x < nI 5)) 2 12 := by
  refine KI_of (own := RX5) (L0 := [some (.ref (ad 0)), some (.int x)]) (by decide +kernel) rfl (catc rfl (catc rfl cat0)) (Nat.le_of_ble_eq_true rfl) rfl ?_
  intro p e s m args below meth c A hnm C
  refine r_iload1 (pc := 0) C dX5_offered_0 ?_
  refine r_aload0 (pc := 1) C dX5_offered_1 ?_
  refine gX5_32 (pc := 2) C hT dX5_offered_2 ?_
  refine l7 (pc := 5) C hT dX5_offered_5 ?_
  refine kX5_66x (pc := 6) C (c_X5_needIndex l D hfl _ _ _) dX5_offered_6 (Nat.le_of_ble_eq_true rfl) (by decide) (fun E h => h) (fun _ => rfl) ?_
  rintro _ ⟨h1, rfl⟩
  obtain ⟨j, hj, rfl⟩ := ix_of (N := 5) (by decide) h1
  refine r_aload0 (pc := 9) C dX5_offered_9 ?_
  refine gX5_32 (pc := 10) C hT dX5_offered_10 ?_
  refine r_iload1 (pc := 13) C dX5_offered_13 ?_
  refine a7 (pc := 14) C hT rfl (by omega) dX5_offered_14 ?_
  exact r_iret C rfl dX5_offered_15 (⟨j, hj, rfl, rfl, rfl⟩) (by decide) (by decide)


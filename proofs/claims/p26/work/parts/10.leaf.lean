set_option maxRecDepth 100000 in
set_option maxHeartbeats 4000000 in
theorem c_X5_isIn (l : Launch) (D : Gt) (S : St) (a b : Int32) : KI D l yX5_isIn (uws yX5_isIn cX5_isIn 2 (some .boolean)) (RM 1 0 0) [.int a, .int b] S (fun r S1 => r = bI (0 ≤ a ∧ a < b) ∧ S1 = S) (nX) 0 0 := by
  refine KI_of (own := RX5) (L0 := [some (.int a), some (.int b)]) (by decide +kernel) rfl (catc rfl (catc rfl cat0)) (Nat.le_of_ble_eq_true rfl) rfl ?_
  intro p e s m args below meth c A hnm C
  refine r_iload0 (pc := 0) C dX5_isIn_0 ?_
  refine r_if_lt (pc := 1) C (tgt := 13) dX5_isIn_1 (by decide) (fun c_1 => ?_) (fun c_1 => ?_)
  · refine r_iconst (pc := 13) C (v := 0) dX5_isIn_13 (by decide) ?_
    exact r_zret C rfl rfl dX5_isIn_14 (by first | exact ⟨(bI_t (by grind)).symm, rfl⟩ | exact ⟨(bI_f (by grind)).symm, rfl⟩) (by decide) (by decide)
  · refine r_iload0 (pc := 4) C dX5_isIn_4 ?_
    refine r_iload1 (pc := 5) C dX5_isIn_5 ?_
    refine r_icmp_ge (pc := 6) C (tgt := 13) dX5_isIn_6 (by decide) (fun c_6 => ?_) (fun c_6 => ?_)
    · refine r_iconst (pc := 13) C (v := 0) dX5_isIn_13 (by decide) ?_
      exact r_zret C rfl rfl dX5_isIn_14 (by first | exact ⟨(bI_t (by grind)).symm, rfl⟩ | exact ⟨(bI_f (by grind)).symm, rfl⟩) (by decide) (by decide)
    · refine r_iconst (pc := 9) C (v := 1) dX5_isIn_9 (by decide) ?_
      refine r_goto (pc := 10) C (tgt := 14) dX5_isIn_10 (by decide) ?_
      exact r_zret C rfl rfl dX5_isIn_14 (by first | exact ⟨(bI_t (by grind)).symm, rfl⟩ | exact ⟨(bI_f (by grind)).symm, rfl⟩) (by decide) (by decide)

set_option maxRecDepth 100000 in
set_option maxHeartbeats 4000000 in
theorem c_X5_needIndex (l : Launch) (D : Gt) (hfl : l.stackTraces = false) (S : St) (a b : Int32) : KV D l yX5_needIndex (uws yX5_needIndex cX5_needIndex 2 none) (RM 6 1 6) [.int a, .int b] S (fun S1 => (0 ≤ a ∧ a < b) ∧ S1 = S) (fun E => E = sIOB ∧ ¬ (0 ≤ a ∧ a < b)) 1 6 := by
  refine KV_of (own := RX5) (L0 := [some (.int a), some (.int b)]) (by decide +kernel) rfl (catc rfl (catc rfl cat0)) (Nat.le_of_ble_eq_true rfl) rfl ?_
  intro p e s m args below meth c A hnm C
  refine r_iload0 (pc := 0) C dX5_needIndex_0 ?_
  refine r_iload1 (pc := 1) C dX5_needIndex_1 ?_
  refine kX5_74 (pc := 2) C (c_X5_isIn l D _ _ _) dX5_needIndex_2 (Nat.le_of_ble_eq_true rfl) (by decide) ?_
  rintro _ _ ⟨rfl, rfl⟩
  refine r_if_ne_b (pc := 5) C (tgt := 19) dX5_needIndex_5 (by decide) (fun c_5 => ?_) (fun c_5 => ?_)
  · exact r_vret C rfl dX5_needIndex_19 (⟨by assumption, rfl⟩) (by decide) (by decide)
  · exact r_thrW_IOB C hfl (List.mem_of_getElem? (i := 0) rfl) dX5_needIndex_8 dX5_needIndex_11 dX5_needIndex_12 dX5_needIndex_15 dX5_needIndex_18 ⟨by decide, Nat.le_of_ble_eq_true rfl, by decide, by decide, by decide, by decide⟩ (⟨rfl, by assumption⟩) rfl

set_option maxRecDepth 100000 in
set_option maxHeartbeats 4000000 in
theorem c_X5_needRange (l : Launch) (D : Gt) (hfl : l.stackTraces = false) (S : St) (x a b : Int32) : KV D l yX5_needRange (uws yX5_needRange cX5_needRange 3 none) (RM 6 1 6) [.int x, .int a, .int b] S (fun S1 => (a ≤ x ∧ x ≤ b) ∧ S1 = S) (fun E => E = sIAE ∧ ¬ (a ≤ x ∧ x ≤ b)) 1 6 := by
  refine KV_of (own := RX5) (L0 := [some (.int x), some (.int a), some (.int b)]) (by decide +kernel) rfl (catc rfl (catc rfl (catc rfl cat0))) (Nat.le_of_ble_eq_true rfl) rfl ?_
  intro p e s m args below meth c A hnm C
  refine r_iload0 (pc := 0) C dX5_needRange_0 ?_
  refine r_iload1 (pc := 1) C dX5_needRange_1 ?_
  refine r_icmp_lt (pc := 2) C (tgt := 10) dX5_needRange_2 (by decide) (fun c_2 => ?_) (fun c_2 => ?_)
  · exact r_thrW_IAE C hfl (List.mem_of_getElem? (i := 2) rfl) dX5_needRange_10 dX5_needRange_13 dX5_needRange_14 dX5_needRange_17 dX5_needRange_20 ⟨by decide, Nat.le_of_ble_eq_true rfl, by decide, by decide, by decide, by decide⟩ (⟨rfl, by grind⟩) rfl
  · refine r_iload0 (pc := 5) C dX5_needRange_5 ?_
    refine r_iload2 (pc := 6) C dX5_needRange_6 ?_
    refine r_icmp_le (pc := 7) C (tgt := 21) dX5_needRange_7 (by decide) (fun c_7 => ?_) (fun c_7 => ?_)
    · exact r_vret C rfl dX5_needRange_21 (⟨by grind, rfl⟩) (by decide) (by decide)
    · exact r_thrW_IAE C hfl (List.mem_of_getElem? (i := 2) rfl) dX5_needRange_10 dX5_needRange_13 dX5_needRange_14 dX5_needRange_17 dX5_needRange_20 ⟨by decide, Nat.le_of_ble_eq_true rfl, by decide, by decide, by decide, by decide⟩ (⟨rfl, by grind⟩) rfl

set_option maxRecDepth 100000 in
set_option maxHeartbeats 4000000 in
theorem c_X5_within (l : Launch) (D : Gt) (S : St) (x a b : Int32) : KI D l yX5_within (uws yX5_within cX5_within 3 (some .int)) (RM 2 0 0) [.int x, .int a, .int b] S (fun r S1 => r = mxI a (mnI b x) ∧ S1 = S) (nX) 0 0 := by
  refine KI_of (own := RX5) (L0 := [some (.int x), some (.int a), some (.int b)]) (by decide +kernel) rfl (catc rfl (catc rfl (catc rfl cat0))) (Nat.le_of_ble_eq_true rfl) rfl ?_
  intro p e s m args below meth c A hnm C
  refine r_iload1 (pc := 0) C dX5_within_0 ?_
  refine r_iload2 (pc := 1) C dX5_within_1 ?_
  refine r_iload0 (pc := 2) C dX5_within_2 ?_
  refine kX5_334 (pc := 3) C ⟨by decide, Nat.le_of_ble_eq_true rfl, by decide, by decide⟩ dX5_within_3 ?_
  refine kX5_244 (pc := 6) C ⟨by decide, Nat.le_of_ble_eq_true rfl, by decide, by decide⟩ dX5_within_6 ?_
  exact r_iret C rfl dX5_within_9 (⟨rfl, rfl⟩) (by decide) (by decide)

set_option maxRecDepth 100000 in
set_option maxHeartbeats 4000000 in
theorem c_X5_isClear (l : Launch) (D : Gt) (S : St) (x a : Int32) : KI D l yX5_isClear (uws yX5_isClear cX5_isClear 2 (some .boolean)) (RM 1 0 0) [.int x, .int a] S (fun r S1 => r = bI ((x >>> (a &&& 31)) &&& 1 = 0) ∧ S1 = S) (nX) 0 0 := by
  refine KI_of (own := RX5) (L0 := [some (.int x), some (.int a)]) (by decide +kernel) rfl (catc rfl (catc rfl cat0)) (Nat.le_of_ble_eq_true rfl) rfl ?_
  intro p e s m args below meth c A hnm C
  refine r_iload0 (pc := 0) C dX5_isClear_0 ?_
  refine r_iload1 (pc := 1) C dX5_isClear_1 ?_
  refine r_ishr (pc := 2) C dX5_isClear_2 ?_
  refine r_iconst (pc := 3) C (v := 1) dX5_isClear_3 (by decide) ?_
  refine r_iand (pc := 4) C dX5_isClear_4 ?_
  refine r_if_ne (pc := 5) C (tgt := 12) dX5_isClear_5 (by decide) (fun c_5 => ?_) (fun c_5 => ?_)
  · refine r_iconst (pc := 12) C (v := 0) dX5_isClear_12 (by decide) ?_
    exact r_zret C rfl rfl dX5_isClear_13 (by first | exact ⟨(bI_t (by assumption)).symm, rfl⟩ | exact ⟨(bI_f (by assumption)).symm, rfl⟩) (by decide) (by decide)
  · refine r_iconst (pc := 8) C (v := 1) dX5_isClear_8 (by decide) ?_
    refine r_goto (pc := 9) C (tgt := 13) dX5_isClear_9 (by decide) ?_
    exact r_zret C rfl rfl dX5_isClear_13 (by first | exact ⟨(bI_t (by assumption)).symm, rfl⟩ | exact ⟨(bI_f (by assumption)).symm, rfl⟩) (by decide) (by decide)

set_option maxRecDepth 100000 in
set_option maxHeartbeats 4000000 in
theorem c_X5_worthwhile (l : Launch) (D : Gt) (S : St) (x : Int32) : KI D l yX5_worthwhile (uws yX5_worthwhile cX5_worthwhile 1 (some .int)) (RM 1 0 0) [.int x] S (fun r S1 => r = iF (2 ≤ x) x 0 ∧ S1 = S) (nX) 0 0 := by
  refine KI_of (own := RX5) (L0 := [some (.int x)]) (by decide +kernel) rfl (catc rfl cat0) (Nat.le_of_ble_eq_true rfl) rfl ?_
  intro p e s m args below meth c A hnm C
  refine r_iload0 (pc := 0) C dX5_worthwhile_0 ?_
  refine r_iconst (pc := 1) C (v := 2) dX5_worthwhile_1 (by decide) ?_
  refine r_icmp_lt (pc := 2) C (tgt := 9) dX5_worthwhile_2 (by decide) (fun c_2 => ?_) (fun c_2 => ?_)
  · refine r_iconst (pc := 9) C (v := 0) dX5_worthwhile_9 (by decide) ?_
    exact r_iret C rfl dX5_worthwhile_10 (by first | exact ⟨(iF_t (by grind)).symm, rfl⟩ | exact ⟨(iF_f (by grind)).symm, rfl⟩) (by decide) (by decide)
  · refine r_iload0 (pc := 5) C dX5_worthwhile_5 ?_
    refine r_goto (pc := 6) C (tgt := 10) dX5_worthwhile_6 (by decide) ?_
    exact r_iret C rfl dX5_worthwhile_10 (by first | exact ⟨(iF_t (by grind)).symm, rfl⟩ | exact ⟨(iF_f (by grind)).symm, rfl⟩) (by decide) (by decide)

set_option maxRecDepth 100000 in
set_option maxHeartbeats 4000000 in
theorem c_X1_isBy (l : Launch) (D : Gt) (T : List Nat) (ad : Nat → Nat) (f : Nat → va_E) {t : Nat} {x0 x1 x2 x3 x4 : Int32} (ht : t ∈ T) (ho : f t = .inr (1, [.int x0, .int x1, .int x2, .int x3, .int x4])) (a : Int32) : KI D l yX1_isBy (uws yX1_isBy cX1_isBy 2 (some .boolean)) (RM 1 0 0) [.ref (ad t), .int a] (T, ad, f) (fun r S1 => r = bI (¬ ((x0 >>> (a &&& 31)) &&& 1 = 0)) ∧ S1 = (T, ad, f)) (nX) 0 0 := by
  refine KI_of (own := RX1) (L0 := [some (.ref (ad t)), some (.int a)]) (by decide +kernel) rfl (catc rfl (catc rfl cat0)) (Nat.le_of_ble_eq_true rfl) rfl ?_
  intro p e s m args below meth c A hnm C
  refine r_aload0 (pc := 0) C dX1_isBy_0 ?_
  refine gX1_7 (pc := 1) C ht ho dX1_isBy_1 ?_
  refine r_iload1 (pc := 4) C dX1_isBy_4 ?_
  refine r_ishr (pc := 5) C dX1_isBy_5 ?_
  refine r_iconst (pc := 6) C (v := 1) dX1_isBy_6 (by decide) ?_
  refine r_iand (pc := 7) C dX1_isBy_7 ?_
  refine r_if_eq (pc := 8) C (tgt := 15) dX1_isBy_8 (by decide) (fun c_8 => ?_) (fun c_8 => ?_)
  · refine r_iconst (pc := 15) C (v := 0) dX1_isBy_15 (by decide) ?_
    exact r_zret C rfl rfl dX1_isBy_16 (by first | exact ⟨(bI_t (by simpa using c_8)).symm, rfl⟩ | exact ⟨(bI_f (by simpa using c_8)).symm, rfl⟩) (by decide) (by decide)
  · refine r_iconst (pc := 11) C (v := 1) dX1_isBy_11 (by decide) ?_
    refine r_goto (pc := 12) C (tgt := 16) dX1_isBy_12 (by decide) ?_
    exact r_zret C rfl rfl dX1_isBy_16 (by first | exact ⟨(bI_t (by simpa using c_8)).symm, rfl⟩ | exact ⟨(bI_f (by simpa using c_8)).symm, rfl⟩) (by decide) (by decide)

set_option maxRecDepth 100000 in
set_option maxHeartbeats 4000000 in
theorem c_X1_isFull (l : Launch) (D : Gt) (T : List Nat) (ad : Nat → Nat) (f : Nat → va_E) {t : Nat} {x0 x1 x2 x3 x4 : Int32} (ht : t ∈ T) (ho : f t = .inr (1, [.int x0, .int x1, .int x2, .int x3, .int x4])) : KI D l yX1_isFull (uws yX1_isFull cX1_isFull 1 (some .boolean)) (RM 1 0 0) [.ref (ad t)] (T, ad, f) (fun r S1 => r = bI (3 ≤ x1) ∧ S1 = (T, ad, f)) (nX) 0 0 := by
  refine KI_of (own := RX1) (L0 := [some (.ref (ad t))]) (by decide +kernel) rfl (catc rfl cat0) (Nat.le_of_ble_eq_true rfl) rfl ?_
  intro p e s m args below meth c A hnm C
  refine r_aload0 (pc := 0) C dX1_isFull_0 ?_
  refine gX1_13 (pc := 1) C ht ho dX1_isFull_1 ?_
  refine r_iconst (pc := 4) C (v := 3) dX1_isFull_4 (by decide) ?_
  refine r_icmp_lt (pc := 5) C (tgt := 12) dX1_isFull_5 (by decide) (fun c_5 => ?_) (fun c_5 => ?_)
  · refine r_iconst (pc := 12) C (v := 0) dX1_isFull_12 (by decide) ?_
    exact r_zret C rfl rfl dX1_isFull_13 (by first | exact ⟨(bI_t (by grind)).symm, rfl⟩ | exact ⟨(bI_f (by grind)).symm, rfl⟩) (by decide) (by decide)
  · refine r_iconst (pc := 8) C (v := 1) dX1_isFull_8 (by decide) ?_
    refine r_goto (pc := 9) C (tgt := 13) dX1_isFull_9 (by decide) ?_
    exact r_zret C rfl rfl dX1_isFull_13 (by first | exact ⟨(bI_t (by grind)).symm, rfl⟩ | exact ⟨(bI_f (by grind)).symm, rfl⟩) (by decide) (by decide)

set_option maxRecDepth 100000 in
set_option maxHeartbeats 4000000 in
theorem c_X1_add (l : Launch) (D : Gt) (T : List Nat) (ad : Nat → Nat) (f : Nat → va_E) {t : Nat} {x0 x1 x2 x3 x4 : Int32} (ht : t ∈ T) (ho : f t = .inr (1, [.int x0, .int x1, .int x2, .int x3, .int x4])) (a b : Int32) : KV D l yX1_add (uws yX1_add cX1_add 3 none) (RM 1 0 0) [.ref (ad t), .int a, .int b] (T, ad, f) (fun S1 => S1 = (T, ad, va_up f t (.inr (1, [.int (x0 ||| ((1 : Int32) <<< (a &&& 31))), .int (x1 + 1), .int (iF (x1 = 0) b x2), .int (iF (x1 = 1) b x3), .int (iF (¬ x1 = 0 ∧ ¬ x1 = 1) b x4)])))) (nX) 0 0 := by
  refine KV_of (own := RX1) (L0 := [some (.ref (ad t)), some (.int a), some (.int b)]) (by decide +kernel) rfl (catc rfl (catc rfl (catc rfl cat0))) (Nat.le_of_ble_eq_true rfl) rfl ?_
  intro p e s m args below meth c A hnm C
  refine r_aload0 (pc := 0) C dX1_add_0 ?_
  refine r_dup (pc := 1) C dX1_add_1 rfl ?_
  refine gX1_7 (pc := 2) C ht ho dX1_add_2 ?_
  refine r_iconst (pc := 5) C (v := 1) dX1_add_5 (by decide) ?_
  refine r_iload1 (pc := 6) C dX1_add_6 ?_
  refine r_ishl (pc := 7) C dX1_add_7 ?_
  refine r_ior (pc := 8) C dX1_add_8 ?_
  refine pX1_7 (pc := 9) C ht ho dX1_add_9 ?_
  refine r_aload0 (pc := 12) C dX1_add_12 ?_
  refine gX1_13 (pc := 13) C ht (va_up_self _ _ _) dX1_add_13 ?_
  refine r_if_ne (pc := 16) C (tgt := 27) dX1_add_16 (by decide) (fun c_16 => ?_) (fun c_16 => ?_)
  · refine r_aload0 (pc := 27) C dX1_add_27 ?_
    refine gX1_13 (pc := 28) C ht (va_up_self _ _ _) dX1_add_28 ?_
    refine r_iconst (pc := 31) C (v := 1) dX1_add_31 (by decide) ?_
    refine r_icmp_ne (pc := 32) C (tgt := 43) dX1_add_32 (by decide) (fun c_32 => ?_) (fun c_32 => ?_)
    · refine r_aload0 (pc := 43) C dX1_add_43 ?_
      refine r_iload2 (pc := 44) C dX1_add_44 ?_
      refine pX1_22 (pc := 45) C ht (va_up_self _ _ _) dX1_add_45 ?_
      refine r_aload0 (pc := 48) C dX1_add_48 ?_
      refine r_dup (pc := 49) C dX1_add_49 rfl ?_
      refine gX1_13 (pc := 50) C ht (va_up_self _ _ _) dX1_add_50 ?_
      refine r_iconst (pc := 53) C (v := 1) dX1_add_53 (by decide) ?_
      refine r_iadd (pc := 54) C dX1_add_54 ?_
      refine pX1_13 (pc := 55) C ht (va_up_self _ _ _) dX1_add_55 ?_
      exact r_vret C rfl dX1_add_58 (by simp [up_up, iF, *]) (by decide) (by decide)
    · refine r_aload0 (pc := 35) C dX1_add_35 ?_
      refine r_iload2 (pc := 36) C dX1_add_36 ?_
      refine pX1_19 (pc := 37) C ht (va_up_self _ _ _) dX1_add_37 ?_
      refine r_goto (pc := 40) C (tgt := 48) dX1_add_40 (by decide) ?_
      refine r_aload0 (pc := 48) C dX1_add_48 ?_
      refine r_dup (pc := 49) C dX1_add_49 rfl ?_
      refine gX1_13 (pc := 50) C ht (va_up_self _ _ _) dX1_add_50 ?_
      refine r_iconst (pc := 53) C (v := 1) dX1_add_53 (by decide) ?_
      refine r_iadd (pc := 54) C dX1_add_54 ?_
      refine pX1_13 (pc := 55) C ht (va_up_self _ _ _) dX1_add_55 ?_
      exact r_vret C rfl dX1_add_58 (by simp [up_up, iF, *]) (by decide) (by decide)
  · refine r_aload0 (pc := 19) C dX1_add_19 ?_
    refine r_iload2 (pc := 20) C dX1_add_20 ?_
    refine pX1_16 (pc := 21) C ht (va_up_self _ _ _) dX1_add_21 ?_
    refine r_goto (pc := 24) C (tgt := 48) dX1_add_24 (by decide) ?_
    refine r_aload0 (pc := 48) C dX1_add_48 ?_
    refine r_dup (pc := 49) C dX1_add_49 rfl ?_
    refine gX1_13 (pc := 50) C ht (va_up_self _ _ _) dX1_add_50 ?_
    refine r_iconst (pc := 53) C (v := 1) dX1_add_53 (by decide) ?_
    refine r_iadd (pc := 54) C dX1_add_54 ?_
    refine pX1_13 (pc := 55) C ht (va_up_self _ _ _) dX1_add_55 ?_
    exact r_vret C rfl dX1_add_58 (by simp [up_up, iF, *]) (by decide) (by decide)

set_option maxRecDepth 100000 in
set_option maxHeartbeats 4000000 in
theorem c_X1_middle (l : Launch) (D : Gt) (T : List Nat) (ad : Nat → Nat) (f : Nat → va_E) {t : Nat} {x0 x1 x2 x3 x4 : Int32} (ht : t ∈ T) (ho : f t = .inr (1, [.int x0, .int x1, .int x2, .int x3, .int x4])) : KI D l yX1_middle (uws yX1_middle cX1_middle 3 (some .int)) (RM 2 0 0) [.ref (ad t)] (T, ad, f) (fun r S1 => r = mid3 x2 x3 x4 ∧ S1 = (T, ad, f)) (nX) 0 0 := by
  refine KI_of (own := RX1) (L0 := [some (.ref (ad t)), none, none]) (by decide +kernel) rfl (catc rfl cat0) (Nat.le_of_ble_eq_true rfl) rfl ?_
  intro p e s m args below meth c A hnm C
  refine r_aload0 (pc := 0) C dX1_middle_0 ?_
  refine gX1_16 (pc := 1) C ht ho dX1_middle_1 ?_
  refine r_aload0 (pc := 4) C dX1_middle_4 ?_
  refine gX1_19 (pc := 5) C ht ho dX1_middle_5 ?_
  refine kX1_25 (pc := 8) C ⟨by decide, Nat.le_of_ble_eq_true rfl, by decide, by decide⟩ dX1_middle_8 ?_
  refine r_istore1 (pc := 11) C dX1_middle_11 ?_
  refine r_aload0 (pc := 12) C dX1_middle_12 ?_
  refine gX1_16 (pc := 13) C ht ho dX1_middle_13 ?_
  refine r_aload0 (pc := 16) C dX1_middle_16 ?_
  refine gX1_19 (pc := 17) C ht ho dX1_middle_17 ?_
  refine kX1_31 (pc := 20) C ⟨by decide, Nat.le_of_ble_eq_true rfl, by decide, by decide⟩ dX1_middle_20 ?_
  refine r_istore2 (pc := 23) C dX1_middle_23 ?_
  refine r_iload1 (pc := 24) C dX1_middle_24 ?_
  refine r_iload2 (pc := 25) C dX1_middle_25 ?_
  refine r_aload0 (pc := 26) C dX1_middle_26 ?_
  refine gX1_22 (pc := 27) C ht ho dX1_middle_27 ?_
  refine kX1_25 (pc := 30) C ⟨by decide, Nat.le_of_ble_eq_true rfl, by decide, by decide⟩ dX1_middle_30 ?_
  refine kX1_31 (pc := 33) C ⟨by decide, Nat.le_of_ble_eq_true rfl, by decide, by decide⟩ dX1_middle_33 ?_
  exact r_iret C rfl dX1_middle_36 (⟨rfl, rfl⟩) (by decide) (by decide)

set_option maxRecDepth 100000 in
set_option maxHeartbeats 4000000 in
theorem c_X3_size (l : Launch) (D : Gt) (T : List Nat) (ad : Nat → Nat) (σ : Mm) {nr ng : Nat} (hT : TG nr ng T) {i : Nat} (hi : i < nr) : KI D l yX3_size (uws yX3_size cX3_size 1 (some .int)) (RM 1 0 0) [.ref (ad (100 + i))] (T, ad, cO D ad σ) (fun r S1 => r = nI (szN (σ 23 i)) ∧ S1 = (T, ad, cO D ad σ)) (nX) 0 0 := by
  refine KI_of (own := RX3) (L0 := [some (.ref (ad (100 + i)))]) (by decide +kernel) rfl (catc rfl cat0) (Nat.le_of_ble_eq_true rfl) rfl ?_
  intro p e s m args below meth c A hnm C
  refine r_aload0 (pc := 0) C dX3_size_0 ?_
  refine gX3_37 (pc := 1) C hT (by assumption) dX3_size_1 ?_
  refine r_bipush (pc := 4) C (v := 100) dX3_size_4 (by decide) ?_
  refine r_icmp_ge (pc := 6) C (tgt := 11) dX3_size_6 (by decide) (fun c_6 => ?_) (fun c_6 => ?_)
  · refine r_aload0 (pc := 11) C dX3_size_11 ?_
    refine gX3_37 (pc := 12) C hT (by assumption) dX3_size_12 ?_
    refine r_sipush (pc := 15) C (v := 300) dX3_size_15 (by decide) ?_
    refine r_icmp_ge (pc := 18) C (tgt := 23) dX3_size_18 (by decide) (fun c_18 => ?_) (fun c_18 => ?_)
    · refine r_aload0 (pc := 23) C dX3_size_23 ?_
      refine gX3_37 (pc := 24) C hT (by assumption) dX3_size_24 ?_
      refine r_sipush (pc := 27) C (v := 1000) dX3_size_27 (by decide) ?_
      refine r_icmp_ge (pc := 30) C (tgt := 37) dX3_size_30 (by decide) (fun c_30 => ?_) (fun c_30 => ?_)
      · refine r_iconst (pc := 37) C (v := 3) dX3_size_37 (by decide) ?_
        exact r_iret C rfl dX3_size_38 (⟨by unfold szN iF; (repeat' split) <;> first | rfl | (exfalso; grind), rfl⟩) (by decide) (by decide)
      · refine r_iconst (pc := 33) C (v := 2) dX3_size_33 (by decide) ?_
        refine r_goto (pc := 34) C (tgt := 38) dX3_size_34 (by decide) ?_
        exact r_iret C rfl dX3_size_38 (⟨by unfold szN iF; (repeat' split) <;> first | rfl | (exfalso; grind), rfl⟩) (by decide) (by decide)
    · refine r_iconst (pc := 21) C (v := 1) dX3_size_21 (by decide) ?_
      exact r_iret C rfl dX3_size_22 (⟨by unfold szN iF; (repeat' split) <;> first | rfl | (exfalso; grind), rfl⟩) (by decide) (by decide)
  · refine r_iconst (pc := 9) C (v := 0) dX3_size_9 (by decide) ?_
    exact r_iret C rfl dX3_size_10 (⟨by unfold szN iF; (repeat' split) <;> first | rfl | (exfalso; grind), rfl⟩) (by decide) (by decide)

set_option maxRecDepth 100000 in
set_option maxHeartbeats 4000000 in
theorem c_X3_quality (l : Launch) (D : Gt) (T : List Nat) (ad : Nat → Nat) (σ : Mm) {nr ng : Nat} (hT : TG nr ng T) {i : Nat} (hi : i < nr) : KI D l yX3_quality (uws yX3_quality cX3_quality 1 (some .int)) (RM 3 0 0) [.ref (ad (100 + i))] (T, ad, cO D ad σ) (fun r S1 => r = qualC σ i ∧ S1 = (T, ad, cO D ad σ)) (nX) 0 0 := by
  refine KI_of (own := RX3) (L0 := [some (.ref (ad (100 + i)))]) (by decide +kernel) rfl (catc rfl cat0) (Nat.le_of_ble_eq_true rfl) rfl ?_
  intro p e s m args below meth c A hnm C
  refine r_aload0 (pc := 0) C dX3_quality_0 ?_
  refine gX3_12 (pc := 1) C hT (by assumption) dX3_quality_1 ?_
  refine gX3_49 (pc := 4) C (hT.s (by assumption)) (cO_s2 hT (by assumption)) dX3_quality_4 ?_
  by_cases h0 : σ 33 i = 0
  · refine r_tin (pc := 7) (tgt := 32) C dX3_quality_7 h0 (by decide) (by decide) rfl (by decide) ?_
    refine r_iconst (pc := 32) C (v := (-1)) dX3_quality_32 (by decide) ?_
    exact r_iret C rfl dX3_quality_33 (⟨by simp [qualC, qualS, iF, *], rfl⟩) (by decide) (by decide)
  · by_cases h1 : σ 33 i = 1
    · refine r_tin (pc := 7) (tgt := 34) C dX3_quality_7 h1 (by decide) (by decide) rfl (by decide) ?_
      refine r_aload0 (pc := 34) C dX3_quality_34 ?_
      refine gX3_12 (pc := 35) C hT (by assumption) dX3_quality_35 ?_
      refine gX3_52 (pc := 38) C (hT.s (by assumption)) (cO_s2 hT (by assumption)) dX3_quality_38 ?_
      exact r_iret C rfl dX3_quality_41 (⟨by simp [qualC, qualS, iF, *], rfl⟩) (by decide) (by decide)
    · by_cases h2 : σ 33 i = 2
      · refine r_tin (pc := 7) (tgt := 42) C dX3_quality_7 h2 (by decide) (by decide) rfl (by decide) ?_
        refine r_aload0 (pc := 42) C dX3_quality_42 ?_
        refine gX3_12 (pc := 43) C hT (by assumption) dX3_quality_43 ?_
        refine gX3_52 (pc := 46) C (hT.s (by assumption)) (cO_s2 hT (by assumption)) dX3_quality_46 ?_
        refine r_aload0 (pc := 49) C dX3_quality_49 ?_
        refine gX3_12 (pc := 50) C hT (by assumption) dX3_quality_50 ?_
        refine gX3_55 (pc := 53) C (hT.s (by assumption)) (cO_s2 hT (by assumption)) dX3_quality_53 ?_
        refine kX3_58 (pc := 56) C ⟨by decide, Nat.le_of_ble_eq_true rfl, by decide, by decide⟩ dX3_quality_56 ?_
        exact r_iret C rfl dX3_quality_59 (⟨by simp [qualC, qualS, iF, *], rfl⟩) (by decide) (by decide)
      · refine r_tout (pc := 7) (tgt := 60) C dX3_quality_7 (tsw3 h0 h1 h2) (by decide) ?_
        refine r_aload0 (pc := 60) C dX3_quality_60 ?_
        refine gX3_12 (pc := 61) C hT (by assumption) dX3_quality_61 ?_
        refine kX3_64 (pc := 64) C (c_X1_middle l D _ _ _ (hT.s (by assumption)) (cO_s2 hT (by assumption))) (hT.s (by assumption)) (cO_s2 hT (by assumption)) dX3_quality_64 (Nat.le_of_ble_eq_true rfl) (by decide) ?_
        rintro _ _ ⟨rfl, rfl⟩
        exact r_iret C rfl dX3_quality_67 (⟨by simp [qualC, qualS, iF, *], rfl⟩) (by decide) (by decide)

set_option maxRecDepth 100000 in
set_option maxHeartbeats 4000000 in
theorem c_X3_isDoubtful (l : Launch) (D : Gt) (T : List Nat) (ad : Nat → Nat) (σ : Mm) {nr ng : Nat} (hT : TG nr ng T) {i : Nat} (hi : i < nr) : KI D l yX3_isDoubtful (uws yX3_isDoubtful cX3_isDoubtful 1 (some .boolean)) (RM 2 0 0) [.ref (ad (100 + i))] (T, ad, cO D ad σ) (fun r S1 => r = bI (dblC σ i) ∧ S1 = (T, ad, cO D ad σ)) (nX) 0 0 := by
  refine KI_of (own := RX3) (L0 := [some (.ref (ad (100 + i)))]) (by decide +kernel) rfl (catc rfl cat0) (Nat.le_of_ble_eq_true rfl) rfl ?_
  intro p e s m args below meth c A hnm C
  refine r_aload0 (pc := 0) C dX3_isDoubtful_0 ?_
  refine gX3_12 (pc := 1) C hT (by assumption) dX3_isDoubtful_1 ?_
  refine gX3_49 (pc := 4) C (hT.s (by assumption)) (cO_s2 hT (by assumption)) dX3_isDoubtful_4 ?_
  refine r_iconst (pc := 7) C (v := 2) dX3_isDoubtful_7 (by decide) ?_
  refine r_icmp_ne (pc := 8) C (tgt := 37) dX3_isDoubtful_8 (by decide) (fun c_8 => ?_) (fun c_8 => ?_)
  · refine r_iconst (pc := 37) C (v := 0) dX3_isDoubtful_37 (by decide) ?_
    exact r_zret C rfl rfl dX3_isDoubtful_38 (by first | exact ⟨(bI_t (⟨by assumption, by grind⟩)).symm, rfl⟩ | exact ⟨(bI_f (by unfold dblC dblS; grind)).symm, rfl⟩) (by decide) (by decide)
  · refine r_aload0 (pc := 11) C dX3_isDoubtful_11 ?_
    refine gX3_12 (pc := 12) C hT (by assumption) dX3_isDoubtful_12 ?_
    refine gX3_52 (pc := 15) C (hT.s (by assumption)) (cO_s2 hT (by assumption)) dX3_isDoubtful_15 ?_
    refine r_aload0 (pc := 18) C dX3_isDoubtful_18 ?_
    refine gX3_12 (pc := 19) C hT (by assumption) dX3_isDoubtful_19 ?_
    refine gX3_55 (pc := 22) C (hT.s (by assumption)) (cO_s2 hT (by assumption)) dX3_isDoubtful_22 ?_
    refine r_isub (pc := 25) C dX3_isDoubtful_25 ?_
    refine kX3_68 (pc := 26) C ⟨by decide, Nat.le_of_ble_eq_true rfl, by decide, by decide⟩ dX3_isDoubtful_26 ?_
    refine r_iconst (pc := 29) C (v := 2) dX3_isDoubtful_29 (by decide) ?_
    refine r_icmp_lt (pc := 30) C (tgt := 37) dX3_isDoubtful_30 (by decide) (fun c_30 => ?_) (fun c_30 => ?_)
    · refine r_iconst (pc := 37) C (v := 0) dX3_isDoubtful_37 (by decide) ?_
      exact r_zret C rfl rfl dX3_isDoubtful_38 (by first | exact ⟨(bI_t (⟨by assumption, by grind⟩)).symm, rfl⟩ | exact ⟨(bI_f (by unfold dblC dblS; grind)).symm, rfl⟩) (by decide) (by decide)
    · refine r_iconst (pc := 33) C (v := 1) dX3_isDoubtful_33 (by decide) ?_
      refine r_goto (pc := 34) C (tgt := 38) dX3_isDoubtful_34 (by decide) ?_
      exact r_zret C rfl rfl dX3_isDoubtful_38 (by first | exact ⟨(bI_t (⟨by assumption, by grind⟩)).symm, rfl⟩ | exact ⟨(bI_f (by unfold dblC dblS; grind)).symm, rfl⟩) (by decide) (by decide)

set_option maxRecDepth 100000 in
set_option maxHeartbeats 4000000 in
theorem c_X3_canBeBoxed (l : Launch) (D : Gt) (T : List Nat) (ad : Nat → Nat) (σ : Mm) {nr ng : Nat} (hT : TG nr ng T) {i : Nat} (hi : i < nr) : KI D l yX3_canBeBoxed (uws yX3_canBeBoxed cX3_canBeBoxed 1 (some .boolean)) (RM 3 0 0) [.ref (ad (100 + i))] (T, ad, cO D ad σ) (fun r S1 => r = bI (canC σ i) ∧ S1 = (T, ad, cO D ad σ)) (nX) 0 0 := by
  refine KI_of (own := RX3) (L0 := [some (.ref (ad (100 + i)))]) (by decide +kernel) rfl (catc rfl cat0) (Nat.le_of_ble_eq_true rfl) rfl ?_
  intro p e s m args below meth c A hnm C
  refine r_aload0 (pc := 0) C dX3_canBeBoxed_0 ?_
  refine gX3_18 (pc := 1) C hT (by assumption) dX3_canBeBoxed_1 ?_
  refine r_if_ne (pc := 4) C (tgt := 28) dX3_canBeBoxed_4 (by decide) (fun c_4 => ?_) (fun c_4 => ?_)
  · refine r_iconst (pc := 28) C (v := 0) dX3_canBeBoxed_28 (by decide) ?_
    exact r_zret C rfl rfl dX3_canBeBoxed_29 (by first | exact ⟨(bI_t (⟨by assumption, by grind, by assumption⟩)).symm, rfl⟩ | exact ⟨(bI_f (by unfold canC; grind)).symm, rfl⟩) (by decide) (by decide)
  · refine r_aload0 (pc := 7) C dX3_canBeBoxed_7 ?_
    refine gX3_12 (pc := 8) C hT (by assumption) dX3_canBeBoxed_8 ?_
    refine gX3_49 (pc := 11) C (hT.s (by assumption)) (cO_s2 hT (by assumption)) dX3_canBeBoxed_11 ?_
    refine r_if_le (pc := 14) C (tgt := 28) dX3_canBeBoxed_14 (by decide) (fun c_14 => ?_) (fun c_14 => ?_)
    · refine r_iconst (pc := 28) C (v := 0) dX3_canBeBoxed_28 (by decide) ?_
      exact r_zret C rfl rfl dX3_canBeBoxed_29 (by first | exact ⟨(bI_t (⟨by assumption, by grind, by assumption⟩)).symm, rfl⟩ | exact ⟨(bI_f (by unfold canC; grind)).symm, rfl⟩) (by decide) (by decide)
    · refine r_aload0 (pc := 17) C dX3_canBeBoxed_17 ?_
      refine kX3_72 (pc := 18) C (c_X3_isDoubtful l D _ _ _ hT (by assumption)) (hT.r (by assumption)) (cO_ro hT (by assumption)) dX3_canBeBoxed_18 (Nat.le_of_ble_eq_true rfl) (by decide) ?_
      rintro _ _ ⟨rfl, rfl⟩
      refine r_if_ne_b (pc := 21) C (tgt := 28) dX3_canBeBoxed_21 (by decide) (fun c_21 => ?_) (fun c_21 => ?_)
      · refine r_iconst (pc := 28) C (v := 0) dX3_canBeBoxed_28 (by decide) ?_
        exact r_zret C rfl rfl dX3_canBeBoxed_29 (by first | exact ⟨(bI_t (⟨by assumption, by grind, by assumption⟩)).symm, rfl⟩ | exact ⟨(bI_f (by unfold canC; grind)).symm, rfl⟩) (by decide) (by decide)
      · refine r_iconst (pc := 24) C (v := 1) dX3_canBeBoxed_24 (by decide) ?_
        refine r_goto (pc := 25) C (tgt := 29) dX3_canBeBoxed_25 (by decide) ?_
        exact r_zret C rfl rfl dX3_canBeBoxed_29 (by first | exact ⟨(bI_t (⟨by assumption, by grind, by assumption⟩)).symm, rfl⟩ | exact ⟨(bI_f (by unfold canC; grind)).symm, rfl⟩) (by decide) (by decide)

set_option maxRecDepth 100000 in
set_option maxHeartbeats 4000000 in
theorem c_X3_enterBox (l : Launch) (D : Gt) (T : List Nat) (ad : Nat → Nat) (σ : Mm) {nr ng : Nat} (hT : TG nr ng T) {i : Nat} (hi : i < nr) (b : Int32) : KV D l yX3_enterBox (uws yX3_enterBox cX3_enterBox 2 none) (RM 1 0 0) [.ref (ad (100 + i)), .int b] (T, ad, cO D ad σ) (fun S1 => S1 = (T, ad, cO D ad (up (up σ 28 i 1) 30 i b))) (nX) 0 0 := by
  refine KV_of (own := RX3) (L0 := [some (.ref (ad (100 + i))), some (.int b)]) (by decide +kernel) rfl (catc rfl (catc rfl cat0)) (Nat.le_of_ble_eq_true rfl) rfl ?_
  intro p e s m args below meth c A hnm C
  refine r_aload0 (pc := 0) C dX3_enterBox_0 ?_
  refine r_iconst (pc := 1) C (v := 1) dX3_enterBox_1 (by decide) ?_
  refine pX3_18 (pc := 2) C hT (by assumption) dX3_enterBox_2 ?_
  refine r_aload0 (pc := 5) C dX3_enterBox_5 ?_
  refine r_iload1 (pc := 6) C dX3_enterBox_6 ?_
  refine pX3_25 (pc := 7) C hT (by assumption) dX3_enterBox_7 ?_
  exact r_vret C rfl dX3_enterBox_10 (rfl) (by decide) (by decide)

set_option maxRecDepth 100000 in
set_option maxHeartbeats 4000000 in
theorem c_X3_leaveBox (l : Launch) (D : Gt) (T : List Nat) (ad : Nat → Nat) (σ : Mm) {nr ng : Nat} (hT : TG nr ng T) {i : Nat} (hi : i < nr) : KV D l yX3_leaveBox (uws yX3_leaveBox cX3_leaveBox 1 none) (RM 1 0 0) [.ref (ad (100 + i))] (T, ad, cO D ad σ) (fun S1 => S1 = (T, ad, cO D ad (up (up σ 28 i 0) 30 i (-1)))) (nX) 0 0 := by
  refine KV_of (own := RX3) (L0 := [some (.ref (ad (100 + i)))]) (by decide +kernel) rfl (catc rfl cat0) (Nat.le_of_ble_eq_true rfl) rfl ?_
  intro p e s m args below meth c A hnm C
  refine r_aload0 (pc := 0) C dX3_leaveBox_0 ?_
  refine r_iconst (pc := 1) C (v := 0) dX3_leaveBox_1 (by decide) ?_
  refine pX3_18 (pc := 2) C hT (by assumption) dX3_leaveBox_2 ?_
  refine r_aload0 (pc := 5) C dX3_leaveBox_5 ?_
  refine r_iconst (pc := 6) C (v := (-1)) dX3_leaveBox_6 (by decide) ?_
  refine pX3_25 (pc := 7) C hT (by assumption) dX3_leaveBox_7 ?_
  exact r_vret C rfl dX3_leaveBox_10 (rfl) (by decide) (by decide)

set_option maxRecDepth 100000 in
set_option maxHeartbeats 4000000 in
theorem c_X3_sellTo (l : Launch) (D : Gt) (T : List Nat) (ad : Nat → Nat) (σ : Mm) {nr ng : Nat} (hT : TG nr ng T) {i : Nat} (hi : i < nr) (b : Int32) : KV D l yX3_sellTo (uws yX3_sellTo cX3_sellTo 2 none) (RM 1 0 0) [.ref (ad (100 + i)), .int b] (T, ad, cO D ad σ) (fun S1 => S1 = (T, ad, cO D ad (up (up σ 28 i 2) 29 i b))) (nX) 0 0 := by
  refine KV_of (own := RX3) (L0 := [some (.ref (ad (100 + i))), some (.int b)]) (by decide +kernel) rfl (catc rfl (catc rfl cat0)) (Nat.le_of_ble_eq_true rfl) rfl ?_
  intro p e s m args below meth c A hnm C
  refine r_aload0 (pc := 0) C dX3_sellTo_0 ?_
  refine r_iconst (pc := 1) C (v := 2) dX3_sellTo_1 (by decide) ?_
  refine pX3_18 (pc := 2) C hT (by assumption) dX3_sellTo_2 ?_
  refine r_aload0 (pc := 5) C dX3_sellTo_5 ?_
  refine r_iload1 (pc := 6) C dX3_sellTo_6 ?_
  refine pX3_22 (pc := 7) C hT (by assumption) dX3_sellTo_7 ?_
  exact r_vret C rfl dX3_sellTo_10 (rfl) (by decide) (by decide)

set_option maxRecDepth 100000 in
set_option maxHeartbeats 4000000 in
theorem c_X2_caratPrice (l : Launch) (D : Gt) (T : List Nat) (ad : Nat → Nat) (σ : Mm) {nr ng : Nat} (hT : TG nr ng T) {a b : Nat} (ha : a < 4) (hb : b < 19) : KI D l yX2_caratPrice (uws yX2_caratPrice cX2_caratPrice 4 (some .int)) (RM 2 0 0) [.ref (ad 4), .int (nI a), .int (nI b)] (T, ad, cO D ad σ) (fun r S1 => r = σ 5 (19 * a + b) ∧ S1 = (T, ad, cO D ad σ)) (nX) 0 0 := by
  refine KI_of (own := RX2) (L0 := [some (.ref (ad 4)), some (.int (nI a)), some (.int (nI b)), none]) (by decide +kernel) rfl (catc rfl (catc rfl (catc rfl cat0))) (Nat.le_of_ble_eq_true rfl) rfl ?_
  intro p e s m args below meth c A hnm C
  have hlt : 19 * a + b < 76 := by omega
  refine r_iload1 (pc := 0) C dX2_caratPrice_0 ?_
  refine r_bipush (pc := 1) C (v := 19) dX2_caratPrice_1 (by decide) ?_
  refine r_imul (pc := 3) C dX2_caratPrice_3 ?_
  refine r_iload2 (pc := 4) C dX2_caratPrice_4 ?_
  refine r_iadd (pc := 5) C dX2_caratPrice_5 ?_
  rw [show nI a * 19 + nI b = nI (19 * a + b) by rw [show (19 : Int32) = nI 19 from rfl, pk_mul, nI_add, Nat.mul_comm a 19]]
  refine r_istore3 (pc := 6) C dX2_caratPrice_6 ?_
  refine r_iload3 (pc := 7) C dX2_caratPrice_7 ?_
  refine r_aload0 (pc := 8) C dX2_caratPrice_8 ?_
  refine gX2_9 (pc := 9) C hT dX2_caratPrice_9 ?_
  refine l5 (pc := 12) C hT dX2_caratPrice_12 ?_
  refine kX2_15 (pc := 13) C (c_X5_isIn l D _ _ _) dX2_caratPrice_13 (Nat.le_of_ble_eq_true rfl) (by decide) ?_
  rintro _ _ ⟨rfl, rfl⟩
  refine r_if_eq_b (pc := 16) C (tgt := 28) dX2_caratPrice_16 (by decide) (fun c_16 => ?_) (fun c_16 => ?_)
  · refine r_iconst (pc := 28) C (v := 0) dX2_caratPrice_28 (by decide) ?_
    exact r_iret C rfl dX2_caratPrice_29 (by first | exact ⟨rfl, rfl⟩ | (exfalso; exact c_16 ⟨nI_pos' (by omega), nI_lt (b := 76) (by omega) (by decide)⟩)) (by decide) (by decide)
  · refine r_aload0 (pc := 19) C dX2_caratPrice_19 ?_
    refine gX2_9 (pc := 20) C hT dX2_caratPrice_20 ?_
    refine r_iload3 (pc := 23) C dX2_caratPrice_23 ?_
    refine a5 (pc := 24) C hT rfl (by omega) dX2_caratPrice_24 ?_
    refine r_goto (pc := 25) C (tgt := 29) dX2_caratPrice_25 (by decide) ?_
    exact r_iret C rfl dX2_caratPrice_29 (by first | exact ⟨rfl, rfl⟩ | (exfalso; exact c_16 ⟨nI_pos' (by omega), nI_lt (b := 76) (by omega) (by decide)⟩)) (by decide) (by decide)

set_option maxRecDepth 100000 in
set_option maxHeartbeats 4000000 in
theorem c_X2_setCaratPrice (l : Launch) (D : Gt) (T : List Nat) (ad : Nat → Nat) (σ : Mm) {nr ng : Nat} (hT : TG nr ng T) {a b : Nat} (ha : a < 4) (hb : b < 19) (x : Int32) : KV D l yX2_setCaratPrice (uws yX2_setCaratPrice cX2_setCaratPrice 5 none) (RM 2 0 0) [.ref (ad 4), .int (nI a), .int (nI b), .int x] (T, ad, cO D ad σ) (fun S1 => S1 = (T, ad, cO D ad (up σ 5 (19 * a + b) x))) (nX) 0 0 := by
  refine KV_of (own := RX2) (L0 := [some (.ref (ad 4)), some (.int (nI a)), some (.int (nI b)), some (.int x), none]) (by decide +kernel) rfl (catc rfl (catc rfl (catc rfl (catc rfl cat0)))) (Nat.le_of_ble_eq_true rfl) rfl ?_
  intro p e s m args below meth c A hnm C
  have hlt : 19 * a + b < 76 := by omega
  refine r_iload1 (pc := 0) C dX2_setCaratPrice_0 ?_
  refine r_bipush (pc := 1) C (v := 19) dX2_setCaratPrice_1 (by decide) ?_
  refine r_imul (pc := 3) C dX2_setCaratPrice_3 ?_
  refine r_iload2 (pc := 4) C dX2_setCaratPrice_4 ?_
  refine r_iadd (pc := 5) C dX2_setCaratPrice_5 ?_
  rw [show nI a * 19 + nI b = nI (19 * a + b) by rw [show (19 : Int32) = nI 19 from rfl, pk_mul, nI_add, Nat.mul_comm a 19]]
  refine r_istore4 (pc := 6) C dX2_setCaratPrice_6 ?_
  refine r_iload4 (pc := 8) C dX2_setCaratPrice_8 ?_
  refine r_aload0 (pc := 10) C dX2_setCaratPrice_10 ?_
  refine gX2_9 (pc := 11) C hT dX2_setCaratPrice_11 ?_
  refine l5 (pc := 14) C hT dX2_setCaratPrice_14 ?_
  refine kX2_15 (pc := 15) C (c_X5_isIn l D _ _ _) dX2_setCaratPrice_15 (Nat.le_of_ble_eq_true rfl) (by decide) ?_
  rintro _ _ ⟨rfl, rfl⟩
  refine r_if_eq_b (pc := 18) C (tgt := 29) dX2_setCaratPrice_18 (by decide) (fun c_18 => ?_) (fun c_18 => ?_)
  · exact r_vret C rfl dX2_setCaratPrice_29 (by first | rfl | (exfalso; exact c_18 ⟨nI_pos' (by omega), nI_lt (b := 76) (by omega) (by decide)⟩)) (by decide) (by decide)
  · refine r_aload0 (pc := 21) C dX2_setCaratPrice_21 ?_
    refine gX2_9 (pc := 22) C hT dX2_setCaratPrice_22 ?_
    refine r_iload4 (pc := 25) C dX2_setCaratPrice_25 ?_
    refine r_iload3 (pc := 27) C dX2_setCaratPrice_27 ?_
    refine b5 (pc := 28) C hT rfl (by omega) dX2_setCaratPrice_28 ?_
    exact r_vret C rfl dX2_setCaratPrice_29 (by first | rfl | (exfalso; exact c_18 ⟨nI_pos' (by omega), nI_lt (b := 76) (by omega) (by decide)⟩)) (by decide) (by decide)

set_option maxRecDepth 100000 in
set_option maxHeartbeats 4000000 in
theorem c_X2_worthOf (l : Launch) (D : Gt) (T : List Nat) (ad : Nat → Nat) (σ : Mm) {nr ng : Nat} (hT : TG nr ng T) {i : Nat} (hi : i < nr) (hq : qOK (qualC σ i)) : KI D l yX2_worthOf (uws yX2_worthOf cX2_worthOf 3 (some .int)) (RM 4 0 0) [.ref (ad 4), .ref (ad (100 + i))] (T, ad, cO D ad σ) (fun r S1 => r = valC σ i ∧ S1 = (T, ad, cO D ad σ)) (nX) 0 0 := by
  refine KI_of (own := RX2) (L0 := [some (.ref (ad 4)), some (.ref (ad (100 + i))), none]) (by decide +kernel) rfl (catc rfl (catc rfl cat0)) (Nat.le_of_ble_eq_true rfl) rfl ?_
  intro p e s m args below meth c A hnm C
  refine r_aload1 (pc := 0) C dX2_worthOf_0 ?_
  refine kX2_19 (pc := 1) C (c_X3_quality l D _ _ _ hT (by assumption)) (hT.r (by assumption)) (cO_ro hT (by assumption)) dX2_worthOf_1 (Nat.le_of_ble_eq_true rfl) (by decide) ?_
  rintro _ _ ⟨rfl, rfl⟩
  refine r_istore2 (pc := 4) C dX2_worthOf_4 ?_
  refine r_iload2 (pc := 5) C dX2_worthOf_5 ?_
  refine r_iconst (pc := 6) C (v := (-1)) dX2_worthOf_6 (by decide) ?_
  refine r_icmp_ne (pc := 7) C (tgt := 12) dX2_worthOf_7 (by decide) (fun c_7 => ?_) (fun c_7 => ?_)
  · obtain ⟨b, hb, hqb⟩ : ∃ b : Nat, b < 19 ∧ qualC σ i = nI b := by
      rcases hq with h | h
      · exact absurd h (by assumption)
      · exact h
    refine r_aload1 (pc := 12) C dX2_worthOf_12 ?_
    refine gX2_25 (pc := 13) C hT (by assumption) dX2_worthOf_13 ?_
    refine r_aload0 (pc := 16) C dX2_worthOf_16 ?_
    refine r_aload1 (pc := 17) C dX2_worthOf_17 ?_
    refine kX2_29 (pc := 18) C (c_X3_size l D _ _ _ hT (by assumption)) (hT.r (by assumption)) (cO_ro hT (by assumption)) dX2_worthOf_18 (Nat.le_of_ble_eq_true rfl) (by decide) ?_
    rintro _ _ ⟨rfl, rfl⟩
    refine r_iload2 (pc := 21) C dX2_worthOf_21 ?_
    rw [hqb]
    refine kX2_32 (pc := 22) C (c_X2_caratPrice l D _ _ _ hT (szN_lt _) hb) (hT.f (by decide)) rfl dX2_worthOf_22 (Nat.le_of_ble_eq_true rfl) (by decide) ?_
    rintro _ _ ⟨rfl, rfl⟩
    refine r_imul (pc := 25) C dX2_worthOf_25 ?_
    refine r_bipush (pc := 26) C (v := 100) dX2_worthOf_26 (by decide) ?_
    refine r_idiv (pc := 28) C dX2_worthOf_28 (by decide) ?_
    exact r_iret C rfl dX2_worthOf_29 (⟨by rw [valC, valS, iF_f (by assumption), hqb, nI_clamp (by omega)], rfl⟩) (by decide) (by decide)
  · refine r_iconst (pc := 10) C (v := (-1)) dX2_worthOf_10 (by decide) ?_
    exact r_iret C rfl dX2_worthOf_11 (⟨(iF_t (by assumption)).symm, rfl⟩) (by decide) (by decide)

set_option maxRecDepth 100000 in
set_option maxHeartbeats 4000000 in
theorem c_X4_isOn (l : Launch) (D : Gt) (T : List Nat) (ad : Nat → Nat) (σ : Mm) {nr ng : Nat} (hT : TG nr ng T) : KI D l yX4_isOn (uws yX4_isOn cX4_isOn 1 (some .boolean)) (RM 1 0 0) [.ref (ad 9)] (T, ad, cO D ad σ) (fun r S1 => r = bI (¬ σ 9 0 = 0) ∧ S1 = (T, ad, cO D ad σ)) (nX) 0 0 := by
  refine KI_of (own := RX4) (L0 := [some (.ref (ad 9))]) (by decide +kernel) rfl (catc rfl cat0) (Nat.le_of_ble_eq_true rfl) rfl ?_
  intro p e s m args below meth c A hnm C
  refine r_aload0 (pc := 0) C dX4_isOn_0 ?_
  refine gX4_15 (pc := 1) C hT dX4_isOn_1 ?_
  refine r_ifnull_q (pc := 4) C (tgt := 11) dX4_isOn_4 (by decide) (fun c_4 => ?_) (fun x_4 c_4 => ?_)
  · refine r_iconst (pc := 11) C (v := 0) dX4_isOn_11 (by decide) ?_
    exact r_zret C rfl rfl dX4_isOn_12 (by first | exact ⟨(bI_t (tdr_s (by assumption))).symm, rfl⟩ | exact ⟨(bI_f (not_not_intro (tdr_n (by assumption)))).symm, rfl⟩) (by decide) (by decide)
  · refine r_iconst (pc := 7) C (v := 1) dX4_isOn_7 (by decide) ?_
    refine r_goto (pc := 8) C (tgt := 12) dX4_isOn_8 (by decide) ?_
    exact r_zret C rfl rfl dX4_isOn_12 (by first | exact ⟨(bI_t (tdr_s (by assumption))).symm, rfl⟩ | exact ⟨(bI_f (not_not_intro (tdr_n (by assumption)))).symm, rfl⟩) (by decide) (by decide)

set_option maxRecDepth 100000 in
set_option maxHeartbeats 4000000 in
theorem c_X4_end (l : Launch) (D : Gt) (T : List Nat) (ad : Nat → Nat) (σ : Mm) {nr ng : Nat} (hT : TG nr ng T) : KV D l yX4_end (uws yX4_end cX4_end 1 none) (RM 1 0 0) [.ref (ad 9)] (T, ad, cO D ad σ) (fun S1 => S1 = (T, ad, cO D ad (up σ 9 0 0))) (nX) 0 0 := by
  refine KV_of (own := RX4) (L0 := [some (.ref (ad 9))]) (by decide +kernel) rfl (catc rfl cat0) (Nat.le_of_ble_eq_true rfl) rfl ?_
  intro p e s m args below meth c A hnm C
  refine r_aload0 (pc := 0) C dX4_end_0 ?_
  refine r_null (pc := 1) C dX4_end_1 ?_
  refine pX4_15n (pc := 2) C hT dX4_end_2 ?_
  exact r_vret C rfl dX4_end_5 (rfl) (by decide) (by decide)

set_option maxRecDepth 100000 in
set_option maxHeartbeats 4000000 in
theorem c_X4_bidOf (l : Launch) (D : Gt) (T : List Nat) (ad : Nat → Nat) (σ : Mm) {nr ng : Nat} (hT : TG nr ng T) {b : Nat} (hb : b < 5) : KI D l yX4_bidOf (uws yX4_bidOf cX4_bidOf 2 (some .int)) (RM 2 0 0) [.ref (ad 9), .int (nI b)] (T, ad, cO D ad σ) (fun r S1 => r = σ 10 b ∧ S1 = (T, ad, cO D ad σ)) (nX) 0 0 := by
  refine KI_of (own := RX4) (L0 := [some (.ref (ad 9)), some (.int (nI b))]) (by decide +kernel) rfl (catc rfl (catc rfl cat0)) (Nat.le_of_ble_eq_true rfl) rfl ?_
  intro p e s m args below meth c A hnm C
  refine r_iload1 (pc := 0) C dX4_bidOf_0 ?_
  refine r_aload0 (pc := 1) C dX4_bidOf_1 ?_
  refine gX4_9 (pc := 2) C hT dX4_bidOf_2 ?_
  refine l10 (pc := 5) C hT dX4_bidOf_5 ?_
  refine kX4_29 (pc := 6) C (c_X5_isIn l D _ _ _) dX4_bidOf_6 (Nat.le_of_ble_eq_true rfl) (by decide) ?_
  rintro _ _ ⟨rfl, rfl⟩
  refine r_if_eq_b (pc := 9) C (tgt := 21) dX4_bidOf_9 (by decide) (fun c_9 => ?_) (fun c_9 => ?_)
  · refine r_iconst (pc := 21) C (v := (-1)) dX4_bidOf_21 (by decide) ?_
    exact r_iret C rfl dX4_bidOf_22 (by first | exact ⟨rfl, rfl⟩ | (exfalso; exact c_9 ⟨nI_pos' (by omega), nI_lt (b := 5) (by omega) (by decide)⟩)) (by decide) (by decide)
  · refine r_aload0 (pc := 12) C dX4_bidOf_12 ?_
    refine gX4_9 (pc := 13) C hT dX4_bidOf_13 ?_
    refine r_iload1 (pc := 16) C dX4_bidOf_16 ?_
    refine a10 (pc := 17) C hT rfl (by omega) dX4_bidOf_17 ?_
    refine r_goto (pc := 18) C (tgt := 22) dX4_bidOf_18 (by decide) ?_
    exact r_iret C rfl dX4_bidOf_22 (by first | exact ⟨rfl, rfl⟩ | (exfalso; exact c_9 ⟨nI_pos' (by omega), nI_lt (b := 5) (by omega) (by decide)⟩)) (by decide) (by decide)

set_option maxRecDepth 100000 in
set_option maxHeartbeats 4000000 in
theorem c_X4_setBid (l : Launch) (D : Gt) (T : List Nat) (ad : Nat → Nat) (σ : Mm) {nr ng : Nat} (hT : TG nr ng T) {b : Nat} (hb : b < 5) (x : Int32) : KV D l yX4_setBid (uws yX4_setBid cX4_setBid 3 none) (RM 2 0 0) [.ref (ad 9), .int (nI b), .int x] (T, ad, cO D ad σ) (fun S1 => S1 = (T, ad, cO D ad (up σ 10 b x))) (nX) 0 0 := by
  refine KV_of (own := RX4) (L0 := [some (.ref (ad 9)), some (.int (nI b)), some (.int x)]) (by decide +kernel) rfl (catc rfl (catc rfl (catc rfl cat0))) (Nat.le_of_ble_eq_true rfl) rfl ?_
  intro p e s m args below meth c A hnm C
  refine r_iload1 (pc := 0) C dX4_setBid_0 ?_
  refine r_aload0 (pc := 1) C dX4_setBid_1 ?_
  refine gX4_9 (pc := 2) C hT dX4_setBid_2 ?_
  refine l10 (pc := 5) C hT dX4_setBid_5 ?_
  refine kX4_29 (pc := 6) C (c_X5_isIn l D _ _ _) dX4_setBid_6 (Nat.le_of_ble_eq_true rfl) (by decide) ?_
  rintro _ _ ⟨rfl, rfl⟩
  refine r_if_eq_b (pc := 9) C (tgt := 19) dX4_setBid_9 (by decide) (fun c_9 => ?_) (fun c_9 => ?_)
  · exact r_vret C rfl dX4_setBid_19 (by first | rfl | (exfalso; exact c_9 ⟨nI_pos' (by omega), nI_lt (b := 5) (by omega) (by decide)⟩)) (by decide) (by decide)
  · refine r_aload0 (pc := 12) C dX4_setBid_12 ?_
    refine gX4_9 (pc := 13) C hT dX4_setBid_13 ?_
    refine r_iload1 (pc := 16) C dX4_setBid_16 ?_
    refine r_iload2 (pc := 17) C dX4_setBid_17 ?_
    refine b10 (pc := 18) C hT rfl (by omega) dX4_setBid_18 ?_
    exact r_vret C rfl dX4_setBid_19 (by first | rfl | (exfalso; exact c_9 ⟨nI_pos' (by omega), nI_lt (b := 5) (by omega) (by decide)⟩)) (by decide) (by decide)

set_option maxRecDepth 100000 in
set_option maxHeartbeats 4000000 in
theorem c_J7_fill_53178 (l : Launch) (D : Gt) (T : List Nat) (ad : Nat → Nat) (f : Nat → va_E) {t N : Nat} {h : Nat → Int32} (ht : t ∈ T) (ho : f t = .inl (D.2 0, N, .inl h)) (hN : N < 2 ^ 30) (x : Int32) : KV D l yJ7_fill_53178 (uws yJ7_fill_53178 cJ7_fill_53178 4 none) (RM 1 0 0) [.ref (ad t), .int x] (T, ad, f) (fun S1 => S1 = (T, ad, va_up f t (.inl (D.2 0, N, .inl (fillF h x N))))) (nX) 0 0 := by
  refine KV_of (own := RJ7) (L0 := [some (.ref (ad t)), some (.int x), none, none]) (by decide +kernel) rfl (catc rfl (catc rfl cat0)) (Nat.le_of_ble_eq_true rfl) rfl ?_
  intro p e s m args below meth c A hnm C
  refine r_iconst (pc := 0) (v := nI 0) C dJ7_fill_53178_0 (by decide) ?_
  refine r_istore2 (pc := 1) C dJ7_fill_53178_1 ?_
  refine r_aload0 (pc := 2) C dJ7_fill_53178_2 ?_
  refine r_alen (pc := 3) C ht ho (tk := 0) rfl (v := nI N) rfl dJ7_fill_53178_3 ?_
  refine r_istore3 (pc := 4) C dJ7_fill_53178_4 ?_
  have loop : ∀ (z k : Nat), k ≤ N → N < k + z → V D A 4 (T, ad, va_up f t (.inl (D.2 0, N, .inl (fillF h x k)))) p l e (RM 1 0 0) s m args below meth c 0 0 (vx_MQ below (va_Qv (fun S1 => S1 = (T, ad, va_up f t (.inl (D.2 0, N, .inl (fillF h x N))))) (PoB D A) A) (XCs D (T, ad, f) A nX) args s 0 0 A) 5 [some (.ref (ad t)), some (.int x), some (.int (nI k)), some (.int (nI N))] [] := by
    intro z
    induction z with
    | zero => intro k h1 h2; omega
    | succ z ih =>
      intro k h1 h2
      have hk : (nI k) + 1 = nI (k + 1) := nI_1 k
      refine r_iload2 (pc := 5) C dJ7_fill_53178_5 ?_
      refine r_iload3 (pc := 6) C dJ7_fill_53178_6 ?_
      refine r_icmp_geN (pc := 7) C (tgt := 20) dJ7_fill_53178_7 (by decide) (by omega) (by omega) (fun c_7 => ?_) (fun c_7 => ?_)
      · exact r_vret C rfl dJ7_fill_53178_20 (by rw [show k = N by omega]) (by decide) (by decide)
      · refine r_aload0 (pc := 10) C dJ7_fill_53178_10 ?_
        refine r_iload2 (pc := 11) C dJ7_fill_53178_11 ?_
        refine r_iload1 (pc := 12) C dJ7_fill_53178_12 ?_
        refine r_iast (pc := 13) C ht (va_up_self _ _ _) rfl (by omega) (by omega) (fun _ => rfl) dJ7_fill_53178_13 ?_
        refine r_iinc2 (pc := 14) C dJ7_fill_53178_14 hk ?_
        refine r_goto (pc := 17) C (tgt := 5) dJ7_fill_53178_17 (by decide) ?_
        have h3 := ih (k + 1) (by omega) (by omega)
        rw [← fillF_s] at h3
        rw [up_up]
        exact h3
  have h0 := loop (N + 1) 0 (Nat.zero_le _) (by omega)
  rw [fillF_0, up_id ho] at h0
  exact h0


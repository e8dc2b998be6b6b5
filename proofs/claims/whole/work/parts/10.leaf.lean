set_option maxRecDepth 100000 in
set_option maxHeartbeats 4000000 in
theorem c_X5_isIn (l : Launch) (D : Gt) (S : St) (a b : Int32) : KI D l yX5_isIn (uws yX5_isIn cX5_isIn 2 (some .boolean)) (RM 1 0 0) [.int a, .int b] S (fun r S1 => r = bI (0 ≤ a ∧ a < b) ∧ S1 = S) (nX) 0 0 := by
  refine KI_of (own := RX5) (L0 := [some (.int a), some (.int b)]) (by decide +kernel) rfl (catc rfl (catc rfl cat0)) (Nat.le_of_ble_eq_true rfl) rfl ?_
  intro p e s m args below meth c A hnm C
  refine r_iload0 (pc := 0) C dX5_isIn_0 ?_
  refine r_if_lt (pc := 1) C (tgt := 13) dX5_isIn_1 (by decide) (fun c_1 => ?_) (fun c_1 => ?_)
  · refine r_iconst (pc := 13) C (v := 0) dX5_isIn_13 (by decide) ?_
    exact r_zret C rfl rfl dX5_isIn_14 (by first | exact ⟨(bI_t (by grind)).symm, rfl⟩ | exact ⟨(bI_f (by grind)).symm, rfl⟩) (by decide) (by decide)
  · refine r_iload0 (pc := 4) C dX5_isIn_4 ?_
    refine r_iload1 (pc := 5) C dX5_isIn_5 ?_
    refine r_icmp_ge (pc := 6) C (tgt := 13) dX5_isIn_6 (by decide) (fun c_6 => ?_) (fun c_6 => ?_)
    · refine r_iconst (pc := 13) C (v := 0) dX5_isIn_13 (by decide) ?_
      exact r_zret C rfl rfl dX5_isIn_14 (by first | exact ⟨(bI_t (by grind)).symm, rfl⟩ | exact ⟨(bI_f (by grind)).symm, rfl⟩) (by decide) (by decide)
    · refine r_iconst (pc := 9) C (v := 1) dX5_isIn_9 (by decide) ?_
      refine r_goto (pc := 10) C (tgt := 14) dX5_isIn_10 (by decide) ?_
      exact r_zret C rfl rfl dX5_isIn_14 (by first | exact ⟨(bI_t (by grind)).symm, rfl⟩ | exact ⟨(bI_f (by grind)).symm, rfl⟩) (by decide) (by decide)

set_option maxRecDepth 100000 in
set_option maxHeartbeats 4000000 in
theorem c_X5_needIndex (l : Launch) (D : Gt) (hfl : l.stackTraces = false) (S : St) (a b : Int32) : KV D l yX5_needIndex (uws yX5_needIndex cX5_needIndex 2 none) (RM 6 1 6) [.int a, .int b] S (fun S1 => (0 ≤ a ∧ a < b) ∧ S1 = S) (fun E => E = sIOB ∧ ¬ (0 ≤ a ∧ a < b)) 1 6 := by
  refine KV_of (own := RX5) (L0 := [some (.int a), some (.int b)]) (by decide +kernel) rfl (catc rfl (catc rfl cat0)) (Nat.le_of_ble_eq_true rfl) rfl ?_
  intro p e s m args below meth c A hnm C
  refine r_iload0 (pc := 0) C dX5_needIndex_0 ?_
  refine r_iload1 (pc := 1) C dX5_needIndex_1 ?_
  refine kX5_74 (pc := 2) C (c_X5_isIn l D _ _ _) dX5_needIndex_2 (Nat.le_of_ble_eq_true rfl) (by decide) ?_
  rintro _ _ ⟨rfl, rfl⟩
  refine r_if_ne_b (pc := 5) C (tgt := 19) dX5_needIndex_5 (by decide) (fun c_5 => ?_) (fun c_5 => ?_)
  · exact r_vret C rfl dX5_needIndex_19 (⟨by assumption, rfl⟩) (by decide) (by decide)
  · exact r_thrW_IOB C hfl (List.mem_of_getElem? (i := 0) rfl) dX5_needIndex_8 dX5_needIndex_11 dX5_needIndex_12 dX5_needIndex_15 dX5_needIndex_18 ⟨by decide, Nat.le_of_ble_eq_true rfl, by decide, by decide, by decide, by decide⟩ (⟨rfl, by assumption⟩) rfl

set_option maxRecDepth 100000 in
set_option maxHeartbeats 4000000 in
theorem c_X5_needRange (l : Launch) (D : Gt) (hfl : l.stackTraces = false) (S : St) (x a b : Int32) : KV D l yX5_needRange (uws yX5_needRange cX5_needRange 3 none) (RM 6 1 6) [.int x, .int a, .int b] S (fun S1 => (a ≤ x ∧ x ≤ b) ∧ S1 = S) (fun E => E = sIAE ∧ ¬ (a ≤ x ∧ x ≤ b)) 1 6 := by
  refine KV_of (own := RX5) (L0 := [some (.int x), some (.int a), some (.int b)]) (by decide +kernel) rfl (catc rfl (catc rfl (catc rfl cat0))) (Nat.le_of_ble_eq_true rfl) rfl ?_
  intro p e s m args below meth c A hnm C
  refine r_iload0 (pc := 0) C dX5_needRange_0 ?_
  refine r_iload1 (pc := 1) C dX5_needRange_1 ?_
  refine r_icmp_lt (pc := 2) C (tgt := 10) dX5_needRange_2 (by decide) (fun c_2 => ?_) (fun c_2 => ?_)
  · exact r_thrW_IAE C hfl (List.mem_of_getElem? (i := 2) rfl) dX5_needRange_10 dX5_needRange_13 dX5_needRange_14 dX5_needRange_17 dX5_needRange_20 ⟨by decide, Nat.le_of_ble_eq_true rfl, by decide, by decide, by decide, by decide⟩ (⟨rfl, by grind⟩) rfl
  · refine r_iload0 (pc := 5) C dX5_needRange_5 ?_
    refine r_iload2 (pc := 6) C dX5_needRange_6 ?_
    refine r_icmp_le (pc := 7) C (tgt := 21) dX5_needRange_7 (by decide) (fun c_7 => ?_) (fun c_7 => ?_)
    · exact r_vret C rfl dX5_needRange_21 (⟨by grind, rfl⟩) (by decide) (by decide)
    · exact r_thrW_IAE C hfl (List.mem_of_getElem? (i := 2) rfl) dX5_needRange_10 dX5_needRange_13 dX5_needRange_14 dX5_needRange_17 dX5_needRange_20 ⟨by decide, Nat.le_of_ble_eq_true rfl, by decide, by decide, by decide, by decide⟩ (⟨rfl, by grind⟩) rfl

set_option maxRecDepth 100000 in
set_option maxHeartbeats 4000000 in
theorem c_X5_within (l : Launch) (D : Gt) (S : St) (x a b : Int32) : KI D l yX5_within (uws yX5_within cX5_within 3 (some .int)) (RM 2 0 0) [.int x, .int a, .int b] S (fun r S1 => r = mxI a (mnI b x) ∧ S1 = S) (nX) 0 0 := by
  refine KI_of (own := RX5) (L0 := [some (.int x), some (.int a), some (.int b)]) (by decide +kernel) rfl (catc rfl (catc rfl (catc rfl cat0))) (Nat.le_of_ble_eq_true rfl) rfl ?_
  intro p e s m args below meth c A hnm C
  refine r_iload1 (pc := 0) C dX5_within_0 ?_
  refine r_iload2 (pc := 1) C dX5_within_1 ?_
  refine r_iload0 (pc := 2) C dX5_within_2 ?_
  refine kX5_334 (pc := 3) C ⟨by decide, Nat.le_of_ble_eq_true rfl, by decide, by decide⟩ dX5_within_3 ?_
  refine kX5_244 (pc := 6) C ⟨by decide, Nat.le_of_ble_eq_true rfl, by decide, by decide⟩ dX5_within_6 ?_
  exact r_iret C rfl dX5_within_9 (⟨rfl, rfl⟩) (by decide) (by decide)

set_option maxRecDepth 100000 in
set_option maxHeartbeats 4000000 in
theorem c_X5_isClear (l : Launch) (D : Gt) (S : St) (x a : Int32) : KI D l yX5_isClear (uws yX5_isClear cX5_isClear 2 (some .boolean)) (RM 1 0 0) [.int x, .int a] S (fun r S1 => r = bI ((x >>> (a &&& 31)) &&& 1 = 0) ∧ S1 = S) (nX) 0 0 := by
  refine KI_of (own := RX5) (L0 := [some (.int x), some (.int a)]) (by decide +kernel) rfl (catc rfl (catc rfl cat0)) (Nat.le_of_ble_eq_true rfl) rfl ?_
  intro p e s m args below meth c A hnm C
  refine r_iload0 (pc := 0) C dX5_isClear_0 ?_
  refine r_iload1 (pc := 1) C dX5_isClear_1 ?_
  refine r_ishr (pc := 2) C dX5_isClear_2 ?_
  refine r_iconst (pc := 3) C (v := 1) dX5_isClear_3 (by decide) ?_
  refine r_iand (pc := 4) C dX5_isClear_4 ?_
  refine r_if_ne (pc := 5) C (tgt := 12) dX5_isClear_5 (by decide) (fun c_5 => ?_) (fun c_5 => ?_)
  · refine r_iconst (pc := 12) C (v := 0) dX5_isClear_12 (by decide) ?_
    exact r_zret C rfl rfl dX5_isClear_13 (by first | exact ⟨(bI_t (by assumption)).symm, rfl⟩ | exact ⟨(bI_f (by assumption)).symm, rfl⟩) (by decide) (by decide)
  · refine r_iconst (pc := 8) C (v := 1) dX5_isClear_8 (by decide) ?_
    refine r_goto (pc := 9) C (tgt := 13) dX5_isClear_9 (by decide) ?_
    exact r_zret C rfl rfl dX5_isClear_13 (by first | exact ⟨(bI_t (by assumption)).symm, rfl⟩ | exact ⟨(bI_f (by assumption)).symm, rfl⟩) (by decide) (by decide)

set_option maxRecDepth 100000 in
set_option maxHeartbeats 4000000 in
theorem c_X5_worthwhile (l : Launch) (D : Gt) (S : St) (x : Int32) : KI D l yX5_worthwhile (uws yX5_worthwhile cX5_worthwhile 1 (some .int)) (RM 1 0 0) [.int x] S (fun r S1 => r = iF (2 ≤ x) x 0 ∧ S1 = S) (nX) 0 0 := by
  refine KI_of (own := RX5) (L0 := [some (.int x)]) (by decide +kernel) rfl (catc rfl cat0) (Nat.le_of_ble_eq_true rfl) rfl ?_
  intro p e s m args below meth c A hnm C
  refine r_iload0 (pc := 0) C dX5_worthwhile_0 ?_
  refine r_iconst (pc := 1) C (v := 2) dX5_worthwhile_1 (by decide) ?_
  refine r_icmp_lt (pc := 2) C (tgt := 9) dX5_worthwhile_2 (by decide) (fun c_2 => ?_) (fun c_2 => ?_)
  · refine r_iconst (pc := 9) C (v := 0) dX5_worthwhile_9 (by decide) ?_
    exact r_iret C rfl dX5_worthwhile_10 (by first | exact ⟨(iF_t (by grind)).symm, rfl⟩ | exact ⟨(iF_f (by grind)).symm, rfl⟩) (by decide) (by decide)
  · refine r_iload0 (pc := 5) C dX5_worthwhile_5 ?_
    refine r_goto (pc := 6) C (tgt := 10) dX5_worthwhile_6 (by decide) ?_
    exact r_iret C rfl dX5_worthwhile_10 (by first | exact ⟨(iF_t (by grind)).symm, rfl⟩ | exact ⟨(iF_f (by grind)).symm, rfl⟩) (by decide) (by decide)


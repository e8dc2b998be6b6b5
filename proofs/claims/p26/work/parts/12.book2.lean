set_option maxRecDepth 100000 in
set_option maxHeartbeats 4000000 in
theorem c_X5_isOffered (l : Launch) (D : Gt) (T : List Nat) (ad : Nat → Nat) (σ : Mm) {nr ng : Nat} (hT : TG nr ng T) (x : Int32) : KI D l yX5_isOffered (uws yX5_isOffered cX5_isOffered 6 (some .boolean)) (RM 1 0 0) [.ref (ad 0), .int x] (T, ad, cO D ad σ) (fun r S1 => r = bI (offd σ x) ∧ S1 = (T, ad, cO D ad σ)) (nX) 0 0 := by
  refine KI_of (own := RX5) (L0 := [some (.ref (ad 0)), some (.int x), none, none, none, none]) (by decide +kernel) rfl (catc rfl (catc rfl cat0)) (Nat.le_of_ble_eq_true rfl) rfl ?_
  intro p e s m args below meth c A hnm C
  have loop : ∀ (z k : Nat) (x5 : Option Value) (hno : ∀ b, b < k → ¬ σ 7 b = x), k ≤ 5 → 5 < k + z → V D A 6 (T, ad, cO D ad σ) p l e (RM 1 0 0) s m args below meth c 0 0 (vx_MQ below (va_Qi (fun r S1 => r = bI (offd σ x) ∧ S1 = (T, ad, cO D ad σ)) (PoB D A) A) (XCs D (T, ad, cO D ad σ) A (nX)) args s 0 0 A) 11 [some (.ref (ad 0)), some (.int x), some (.ref (ad 7)), some (.int (nI 5)), some (.int (nI k)), x5] [] := by
    intro z
    induction z with
    | zero => intro k x5 hno h1 h2; omega
    | succ z ih =>
      intro k x5 hno h1 h2
      have hk : nI k + 1 = nI (k + 1) := nI_1 k
      refine r_iload4 (pc := 11) C dX5_isOffered_11 ?_
      refine r_iload3 (pc := 13) C dX5_isOffered_13 ?_
      refine r_icmp_geN (pc := 14) C (tgt := 37) dX5_isOffered_14 (by decide) (by omega) (by omega) (fun c_14 => ?_) (fun c_14 => ?_)
      · refine r_iconst (pc := 37) C (v := 0) dX5_isOffered_37 (by decide) ?_
        exact r_zret C rfl rfl dX5_isOffered_38 (⟨(bI_f (fun h => by obtain ⟨b, hb, e1⟩ := h; exact hno b (by omega) e1)).symm, rfl⟩) (by decide) (by decide)
      · refine r_aload2 (pc := 17) C dX5_isOffered_17 ?_
        refine r_iload4 (pc := 18) C dX5_isOffered_18 ?_
        refine a7 (pc := 20) C hT rfl (by omega) dX5_isOffered_20 ?_
        refine r_istore5 (pc := 21) C dX5_isOffered_21 ?_
        refine r_iload5 (pc := 23) C dX5_isOffered_23 ?_
        refine r_iload1 (pc := 25) C dX5_isOffered_25 ?_
        refine r_icmp_ne (pc := 26) C (tgt := 31) dX5_isOffered_26 (by decide) (fun c_26 => ?_) (fun c_26 => ?_)
        · refine r_iinc4 (pc := 31) C dX5_isOffered_31 hk ?_
          refine r_goto (pc := 34) C (tgt := 11) dX5_isOffered_34 (by decide) ?_
          exact ih (k + 1) _ (fun b hb => by
            rcases (show b < k ∨ b = k by omega) with q | q
            · exact hno b q
            · rw [q]; assumption) (by omega) (by omega)
        · refine r_iconst (pc := 29) C (v := 1) dX5_isOffered_29 (by decide) ?_
          exact r_zret C rfl rfl dX5_isOffered_30 (⟨(bI_t ⟨k, by omega, by assumption⟩).symm, rfl⟩) (by decide) (by decide)
  refine r_aload0 (pc := 0) C dX5_isOffered_0 ?_
  refine gX5_32 (pc := 1) C hT dX5_isOffered_1 ?_
  refine r_astore2 (pc := 4) C dX5_isOffered_4 ?_
  refine r_aload2 (pc := 5) C dX5_isOffered_5 ?_
  refine l7 (pc := 6) C hT dX5_isOffered_6 ?_
  refine r_istore3 (pc := 7) C dX5_isOffered_7 ?_
  refine r_iconst (pc := 8) C (v := 0) dX5_isOffered_8 (by decide) ?_
  refine r_istore4 (pc := 9) C dX5_isOffered_9 ?_
  exact loop 6 0 _ (fun b hb => absurd hb (by omega)) (by omega) (by omega)

set_option maxRecDepth 100000 in
set_option maxHeartbeats 4000000 in
theorem c_X5_bestFreeBuyer (l : Launch) (D : Gt) (T : List Nat) (ad : Nat → Nat) (σ : Mm) {nr ng : Nat} (hT : TG nr ng T) : KI D l yX5_bestFreeBuyer (uws yX5_bestFreeBuyer cX5_bestFreeBuyer 3 (some .int)) (RM 1 0 0) [.ref (ad 0)] (T, ad, cO D ad σ) (fun r S1 => r = bfC σ 5 ∧ S1 = (T, ad, cO D ad σ)) (nX) 0 0 := by
  refine KI_of (own := RX5) (L0 := [some (.ref (ad 0)), none, none]) (by decide +kernel) rfl (catc rfl cat0) (Nat.le_of_ble_eq_true rfl) rfl ?_
  intro p e s m args below meth c A hnm C
  have loop : ∀ (z k : Nat), k ≤ 5 → 5 < k + z → V D A 3 (T, ad, cO D ad σ) p l e (RM 1 0 0) s m args below meth c 0 0 (vx_MQ below (va_Qi (fun r S1 => r = bfC σ 5 ∧ S1 = (T, ad, cO D ad σ)) (PoB D A) A) (XCs D (T, ad, cO D ad σ) A (nX)) args s 0 0 A) 4 [some (.ref (ad 0)), some (.int (bfC σ k)), some (.int (nI k))] [] := by
    intro z
    induction z with
    | zero => intro k h1 h2; omega
    | succ z ih =>
      intro k h1 h2
      have hk : nI k + 1 = nI (k + 1) := nI_1 k
      refine r_iload2 (pc := 4) C dX5_bestFreeBuyer_4 ?_
      refine r_iconst (pc := 5) C (v := nI 5) dX5_bestFreeBuyer_5 (by decide) ?_
      refine r_icmp_geN (pc := 6) C (tgt := 47) dX5_bestFreeBuyer_6 (by decide) (by omega) (by omega) (fun c_6 => ?_) (fun c_6 => ?_)
      · refine r_iload1 (pc := 47) C dX5_bestFreeBuyer_47 ?_
        exact r_iret C rfl dX5_bestFreeBuyer_48 (⟨by rw [show k = 5 by omega], rfl⟩) (by decide) (by decide)
      · refine r_aload0 (pc := 9) C dX5_bestFreeBuyer_9 ?_
        refine gX5_32 (pc := 10) C hT dX5_bestFreeBuyer_10 ?_
        refine r_iload2 (pc := 13) C dX5_bestFreeBuyer_13 ?_
        refine a7 (pc := 14) C hT rfl (by omega) dX5_bestFreeBuyer_14 ?_
        refine r_iconst (pc := 15) C (v := (-1)) dX5_bestFreeBuyer_15 (by decide) ?_
        refine r_icmp_ne (pc := 16) C (tgt := 41) dX5_bestFreeBuyer_16 (by decide) (fun c_16 => ?_) (fun c_16 => ?_)
        · refine r_iinc2 (pc := 41) C dX5_bestFreeBuyer_41 hk ?_
          refine r_goto (pc := 44) C (tgt := 4) dX5_bestFreeBuyer_44 (by decide) ?_
          first
          | (have e1 : bfC σ (k + 1) = nI k := iF_t (by grind)
             rw [← e1]; exact ih (k + 1) (by omega) (by omega))
          | (have e1 : bfC σ (k + 1) = bfC σ k := iF_f (by grind)
             first
             | (rw [← e1]; exact ih (k + 1) (by omega) (by omega))
             | (have h3 := ih (k + 1) (by omega) (by omega); rw [e1, hbj] at h3; exact h3))
        · refine r_iload1 (pc := 19) C dX5_bestFreeBuyer_19 ?_
          refine r_iconst (pc := 20) C (v := (-1)) dX5_bestFreeBuyer_20 (by decide) ?_
          refine r_icmp_eq (pc := 21) C (tgt := 39) dX5_bestFreeBuyer_21 (by decide) (fun c_21 => ?_) (fun c_21 => ?_)
          · refine r_iload2 (pc := 39) C dX5_bestFreeBuyer_39 ?_
            refine r_istore1 (pc := 40) C dX5_bestFreeBuyer_40 ?_
            refine r_iinc2 (pc := 41) C dX5_bestFreeBuyer_41 hk ?_
            refine r_goto (pc := 44) C (tgt := 4) dX5_bestFreeBuyer_44 (by decide) ?_
            first
            | (have e1 : bfC σ (k + 1) = nI k := iF_t (by grind)
               rw [← e1]; exact ih (k + 1) (by omega) (by omega))
            | (have e1 : bfC σ (k + 1) = bfC σ k := iF_f (by grind)
               first
               | (rw [← e1]; exact ih (k + 1) (by omega) (by omega))
               | (have h3 := ih (k + 1) (by omega) (by omega); rw [e1, hbj] at h3; exact h3))
          · obtain ⟨j, hj, hbj⟩ : ∃ j, j < k ∧ bfC σ k = nI j := (bfC_ix σ k).resolve_left (by assumption)
            have hc : (bfC σ k).toNatClampNeg = j := by rw [hbj, nI_clamp (by omega)]
            refine r_aload0 (pc := 24) C dX5_bestFreeBuyer_24 ?_
            refine gX5_29 (pc := 25) C hT dX5_bestFreeBuyer_25 ?_
            refine r_iload2 (pc := 28) C dX5_bestFreeBuyer_28 ?_
            refine a6 (pc := 29) C hT rfl (by omega) dX5_bestFreeBuyer_29 ?_
            refine r_aload0 (pc := 30) C dX5_bestFreeBuyer_30 ?_
            refine gX5_29 (pc := 31) C hT dX5_bestFreeBuyer_31 ?_
            refine r_iload1 (pc := 34) C dX5_bestFreeBuyer_34 ?_
            refine a6 (pc := 35) C hT hbj (by omega) dX5_bestFreeBuyer_35 ?_
            refine r_icmp_le (pc := 36) C (tgt := 41) dX5_bestFreeBuyer_36 (by decide) (fun c_36 => ?_) (fun c_36 => ?_)
            · refine r_iinc2 (pc := 41) C dX5_bestFreeBuyer_41 hk ?_
              refine r_goto (pc := 44) C (tgt := 4) dX5_bestFreeBuyer_44 (by decide) ?_
              first
              | (have e1 : bfC σ (k + 1) = nI k := iF_t (by grind)
                 rw [← e1]; exact ih (k + 1) (by omega) (by omega))
              | (have e1 : bfC σ (k + 1) = bfC σ k := iF_f (by grind)
                 first
                 | (rw [← e1]; exact ih (k + 1) (by omega) (by omega))
                 | (have h3 := ih (k + 1) (by omega) (by omega); rw [e1, hbj] at h3; exact h3))
            · refine r_iload2 (pc := 39) C dX5_bestFreeBuyer_39 ?_
              refine r_istore1 (pc := 40) C dX5_bestFreeBuyer_40 ?_
              refine r_iinc2 (pc := 41) C dX5_bestFreeBuyer_41 hk ?_
              refine r_goto (pc := 44) C (tgt := 4) dX5_bestFreeBuyer_44 (by decide) ?_
              first
              | (have e1 : bfC σ (k + 1) = nI k := iF_t (by grind)
                 rw [← e1]; exact ih (k + 1) (by omega) (by omega))
              | (have e1 : bfC σ (k + 1) = bfC σ k := iF_f (by grind)
                 first
                 | (rw [← e1]; exact ih (k + 1) (by omega) (by omega))
                 | (have h3 := ih (k + 1) (by omega) (by omega); rw [e1, hbj] at h3; exact h3))
  refine r_iconst (pc := 0) C (v := (-1)) dX5_bestFreeBuyer_0 (by decide) ?_
  refine r_istore1 (pc := 1) C dX5_bestFreeBuyer_1 ?_
  refine r_iconst (pc := 2) C (v := 0) dX5_bestFreeBuyer_2 (by decide) ?_
  refine r_istore2 (pc := 3) C dX5_bestFreeBuyer_3 ?_
  exact loop 6 0 (by omega) (by omega)

set_option maxRecDepth 100000 in
set_option maxHeartbeats 4000000 in
theorem c_X5_richestFreeBox (l : Launch) (D : Gt) (T : List Nat) (ad : Nat → Nat) (σ : Mm) {nr ng : Nat} (hT : TG nr ng T) {nb : Nat} (hnb : σ 0 9 = nI nb) (hn5 : nb ≤ 5) : KI D l yX5_richestFreeBox (uws yX5_richestFreeBox cX5_richestFreeBox 3 (some .int)) (RM 2 0 0) [.ref (ad 0)] (T, ad, cO D ad σ) (fun r S1 => r = rfC σ nb ∧ S1 = (T, ad, cO D ad σ)) (nX) 0 0 := by
  refine KI_of (own := RX5) (L0 := [some (.ref (ad 0)), none, none]) (by decide +kernel) rfl (catc rfl cat0) (Nat.le_of_ble_eq_true rfl) rfl ?_
  intro p e s m args below meth c A hnm C
  have loop : ∀ (z k : Nat), k ≤ nb → nb < k + z → V D A 3 (T, ad, cO D ad σ) p l e (RM 2 0 0) s m args below meth c 0 0 (vx_MQ below (va_Qi (fun r S1 => r = rfC σ nb ∧ S1 = (T, ad, cO D ad σ)) (PoB D A) A) (XCs D (T, ad, cO D ad σ) A (nX)) args s 0 0 A) 4 [some (.ref (ad 0)), some (.int (rfC σ k)), some (.int (nI k))] [] := by
    intro z
    induction z with
    | zero => intro k h1 h2; omega
    | succ z ih =>
      intro k h1 h2
      have hk : nI k + 1 = nI (k + 1) := nI_1 k
      refine r_iload2 (pc := 4) C dX5_richestFreeBox_4 ?_
      refine r_aload0 (pc := 5) C dX5_richestFreeBox_5 ?_
      refine gX5_180 (pc := 6) C hT dX5_richestFreeBox_6 ?_
      rw [hnb]
      refine r_icmp_geN (pc := 9) C (tgt := 57) dX5_richestFreeBox_9 (by decide) (by omega) (by omega) (fun c_9 => ?_) (fun c_9 => ?_)
      · refine r_iload1 (pc := 57) C dX5_richestFreeBox_57 ?_
        exact r_iret C rfl dX5_richestFreeBox_58 (⟨by rw [show k = nb by omega], rfl⟩) (by decide) (by decide)
      · refine r_iload2 (pc := 12) C dX5_richestFreeBox_12 ?_
        refine r_aload0 (pc := 13) C dX5_richestFreeBox_13 ?_
        refine gX5_35 (pc := 14) C hT dX5_richestFreeBox_14 ?_
        refine l8 (pc := 17) C hT dX5_richestFreeBox_17 ?_
        refine r_icmp_geN (pc := 18) C (tgt := 57) dX5_richestFreeBox_18 (by decide) (by omega) (by omega) (fun c_18 => ?_) (fun c_18 => ?_)
        · refine r_iload1 (pc := 57) C dX5_richestFreeBox_57 ?_
          exact r_iret C rfl dX5_richestFreeBox_58 (⟨by rw [show k = nb by omega], rfl⟩) (by decide) (by decide)
        · refine r_aload0 (pc := 21) C dX5_richestFreeBox_21 ?_
          refine r_iload2 (pc := 22) C dX5_richestFreeBox_22 ?_
          refine kX5_189 (pc := 23) C (c_X5_isOffered l D _ _ _ hT _) (hT.f (by decide)) rfl dX5_richestFreeBox_23 (Nat.le_of_ble_eq_true rfl) (by decide) ?_
          rintro _ _ ⟨rfl, rfl⟩
          refine r_if_ne_b (pc := 26) C (tgt := 51) dX5_richestFreeBox_26 (by decide) (fun c_26 => ?_) (fun c_26 => ?_)
          · refine r_iinc2 (pc := 51) C dX5_richestFreeBox_51 hk ?_
            refine r_goto (pc := 54) C (tgt := 4) dX5_richestFreeBox_54 (by decide) ?_
            first
            | (have e1 : rfC σ (k + 1) = nI k := iF_t (by grind)
               rw [← e1]; exact ih (k + 1) (by omega) (by omega))
            | (have e1 : rfC σ (k + 1) = rfC σ k := iF_f (by grind)
               first
               | (rw [← e1]; exact ih (k + 1) (by omega) (by omega))
               | (have h3 := ih (k + 1) (by omega) (by omega); rw [e1, hbj] at h3; exact h3))
          · refine r_iload1 (pc := 29) C dX5_richestFreeBox_29 ?_
            refine r_iconst (pc := 30) C (v := (-1)) dX5_richestFreeBox_30 (by decide) ?_
            refine r_icmp_eq (pc := 31) C (tgt := 49) dX5_richestFreeBox_31 (by decide) (fun c_31 => ?_) (fun c_31 => ?_)
            · refine r_iload2 (pc := 49) C dX5_richestFreeBox_49 ?_
              refine r_istore1 (pc := 50) C dX5_richestFreeBox_50 ?_
              refine r_iinc2 (pc := 51) C dX5_richestFreeBox_51 hk ?_
              refine r_goto (pc := 54) C (tgt := 4) dX5_richestFreeBox_54 (by decide) ?_
              first
              | (have e1 : rfC σ (k + 1) = nI k := iF_t (by grind)
                 rw [← e1]; exact ih (k + 1) (by omega) (by omega))
              | (have e1 : rfC σ (k + 1) = rfC σ k := iF_f (by grind)
                 first
                 | (rw [← e1]; exact ih (k + 1) (by omega) (by omega))
                 | (have h3 := ih (k + 1) (by omega) (by omega); rw [e1, hbj] at h3; exact h3))
            · obtain ⟨j, hj, hbj⟩ : ∃ j, j < k ∧ rfC σ k = nI j := (rfC_ix σ k).resolve_left (by assumption)
              have hc : (rfC σ k).toNatClampNeg = j := by rw [hbj, nI_clamp (by omega)]
              refine r_aload0 (pc := 34) C dX5_richestFreeBox_34 ?_
              refine gX5_35 (pc := 35) C hT dX5_richestFreeBox_35 ?_
              refine r_iload2 (pc := 38) C dX5_richestFreeBox_38 ?_
              refine a8 (pc := 39) C hT rfl (by omega) dX5_richestFreeBox_39 ?_
              refine r_aload0 (pc := 40) C dX5_richestFreeBox_40 ?_
              refine gX5_35 (pc := 41) C hT dX5_richestFreeBox_41 ?_
              refine r_iload1 (pc := 44) C dX5_richestFreeBox_44 ?_
              refine a8 (pc := 45) C hT hbj (by omega) dX5_richestFreeBox_45 ?_
              refine r_icmp_le (pc := 46) C (tgt := 51) dX5_richestFreeBox_46 (by decide) (fun c_46 => ?_) (fun c_46 => ?_)
              · refine r_iinc2 (pc := 51) C dX5_richestFreeBox_51 hk ?_
                refine r_goto (pc := 54) C (tgt := 4) dX5_richestFreeBox_54 (by decide) ?_
                first
                | (have e1 : rfC σ (k + 1) = nI k := iF_t (by grind)
                   rw [← e1]; exact ih (k + 1) (by omega) (by omega))
                | (have e1 : rfC σ (k + 1) = rfC σ k := iF_f (by grind)
                   first
                   | (rw [← e1]; exact ih (k + 1) (by omega) (by omega))
                   | (have h3 := ih (k + 1) (by omega) (by omega); rw [e1, hbj] at h3; exact h3))
              · refine r_iload2 (pc := 49) C dX5_richestFreeBox_49 ?_
                refine r_istore1 (pc := 50) C dX5_richestFreeBox_50 ?_
                refine r_iinc2 (pc := 51) C dX5_richestFreeBox_51 hk ?_
                refine r_goto (pc := 54) C (tgt := 4) dX5_richestFreeBox_54 (by decide) ?_
                first
                | (have e1 : rfC σ (k + 1) = nI k := iF_t (by grind)
                   rw [← e1]; exact ih (k + 1) (by omega) (by omega))
                | (have e1 : rfC σ (k + 1) = rfC σ k := iF_f (by grind)
                   first
                   | (rw [← e1]; exact ih (k + 1) (by omega) (by omega))
                   | (have h3 := ih (k + 1) (by omega) (by omega); rw [e1, hbj] at h3; exact h3))
  refine r_iconst (pc := 0) C (v := (-1)) dX5_richestFreeBox_0 (by decide) ?_
  refine r_istore1 (pc := 1) C dX5_richestFreeBox_1 ?_
  refine r_iconst (pc := 2) C (v := 0) dX5_richestFreeBox_2 (by decide) ?_
  refine r_istore2 (pc := 3) C dX5_richestFreeBox_3 ?_
  exact loop (nb + 1) 0 (by omega) (by omega)

set_option maxRecDepth 100000 in
set_option maxHeartbeats 4000000 in
theorem c_X5_poorestBox (l : Launch) (D : Gt) (T : List Nat) (ad : Nat → Nat) (σ : Mm) {nr ng : Nat} (hT : TG nr ng T) {nb : Nat} (hnb : σ 0 9 = nI nb) (hn5 : nb ≤ 5) (hn1 : 1 ≤ nb) : KI D l yX5_poorestBox (uws yX5_poorestBox cX5_poorestBox 3 (some .int)) (RM 1 0 0) [.ref (ad 0)] (T, ad, cO D ad σ) (fun r S1 => r = nI (pbC σ (nb - 1)) ∧ S1 = (T, ad, cO D ad σ)) (nX) 0 0 := by
  refine KI_of (own := RX5) (L0 := [some (.ref (ad 0)), none, none]) (by decide +kernel) rfl (catc rfl cat0) (Nat.le_of_ble_eq_true rfl) rfl ?_
  intro p e s m args below meth c A hnm C
  have loop : ∀ (z k : Nat), k ≤ nb - 1 → nb - 1 < k + z → V D A 3 (T, ad, cO D ad σ) p l e (RM 1 0 0) s m args below meth c 0 0 (vx_MQ below (va_Qi (fun r S1 => r = nI (pbC σ (nb - 1)) ∧ S1 = (T, ad, cO D ad σ)) (PoB D A) A) (XCs D (T, ad, cO D ad σ) A (nX)) args s 0 0 A) 4 [some (.ref (ad 0)), some (.int (nI (pbC σ k))), some (.int (nI (k + 1)))] [] := by
    intro z
    induction z with
    | zero => intro k h1 h2; omega
    | succ z ih =>
      intro k h1 h2
      have hk : nI k + 1 = nI (k + 1) := nI_1 k
      refine r_iload2 (pc := 4) C dX5_poorestBox_4 ?_
      refine r_aload0 (pc := 5) C dX5_poorestBox_5 ?_
      refine gX5_180 (pc := 6) C hT dX5_poorestBox_6 ?_
      rw [hnb]
      refine r_icmp_geN (pc := 9) C (tgt := 44) dX5_poorestBox_9 (by decide) (by omega) (by omega) (fun c_9 => ?_) (fun c_9 => ?_)
      · refine r_iload1 (pc := 44) C dX5_poorestBox_44 ?_
        exact r_iret C rfl dX5_poorestBox_45 (⟨by rw [show k = nb - 1 by omega], rfl⟩) (by decide) (by decide)
      · refine r_iload2 (pc := 12) C dX5_poorestBox_12 ?_
        refine r_aload0 (pc := 13) C dX5_poorestBox_13 ?_
        refine gX5_35 (pc := 14) C hT dX5_poorestBox_14 ?_
        refine l8 (pc := 17) C hT dX5_poorestBox_17 ?_
        refine r_icmp_geN (pc := 18) C (tgt := 44) dX5_poorestBox_18 (by decide) (by omega) (by omega) (fun c_18 => ?_) (fun c_18 => ?_)
        · refine r_iload1 (pc := 44) C dX5_poorestBox_44 ?_
          exact r_iret C rfl dX5_poorestBox_45 (⟨by rw [show k = nb - 1 by omega], rfl⟩) (by decide) (by decide)
        · have hpb := pbC_le σ k
          refine r_aload0 (pc := 21) C dX5_poorestBox_21 ?_
          refine gX5_35 (pc := 22) C hT dX5_poorestBox_22 ?_
          refine r_iload2 (pc := 25) C dX5_poorestBox_25 ?_
          refine a8 (pc := 26) C hT rfl (by omega) dX5_poorestBox_26 ?_
          refine r_aload0 (pc := 27) C dX5_poorestBox_27 ?_
          refine gX5_35 (pc := 28) C hT dX5_poorestBox_28 ?_
          refine r_iload1 (pc := 31) C dX5_poorestBox_31 ?_
          refine a8 (pc := 32) C hT rfl (by omega) dX5_poorestBox_32 ?_
          refine r_icmp_ge (pc := 33) C (tgt := 38) dX5_poorestBox_33 (by decide) (fun c_33 => ?_) (fun c_33 => ?_)
          · refine r_iinc2 (pc := 38) C dX5_poorestBox_38 (nI_1 (k + 1)) ?_
            refine r_goto (pc := 41) C (tgt := 4) dX5_poorestBox_41 (by decide) ?_
            first
            | (have e1 : pbC σ (k + 1) = k + 1 := iF_t (by grind)
               rw [show nI (k + 1 + 1) = nI (k + 1 + 1) from rfl]; have h3 := ih (k + 1) (by omega) (by omega); rw [e1] at h3; exact h3)
            | (have e1 : pbC σ (k + 1) = pbC σ k := iF_f (by grind)
               have h3 := ih (k + 1) (by omega) (by omega); rw [e1] at h3; exact h3)
          · refine r_iload2 (pc := 36) C dX5_poorestBox_36 ?_
            refine r_istore1 (pc := 37) C dX5_poorestBox_37 ?_
            refine r_iinc2 (pc := 38) C dX5_poorestBox_38 (nI_1 (k + 1)) ?_
            refine r_goto (pc := 41) C (tgt := 4) dX5_poorestBox_41 (by decide) ?_
            first
            | (have e1 : pbC σ (k + 1) = k + 1 := iF_t (by grind)
               rw [show nI (k + 1 + 1) = nI (k + 1 + 1) from rfl]; have h3 := ih (k + 1) (by omega) (by omega); rw [e1] at h3; exact h3)
            | (have e1 : pbC σ (k + 1) = pbC σ k := iF_f (by grind)
               have h3 := ih (k + 1) (by omega) (by omega); rw [e1] at h3; exact h3)
  refine r_iconst (pc := 0) C (v := 0) dX5_poorestBox_0 (by decide) ?_
  refine r_istore1 (pc := 1) C dX5_poorestBox_1 ?_
  refine r_iconst (pc := 2) C (v := 1) dX5_poorestBox_2 (by decide) ?_
  refine r_istore2 (pc := 3) C dX5_poorestBox_3 ?_
  exact loop nb 0 (by omega) (by omega)

set_option maxRecDepth 100000 in
set_option maxHeartbeats 4000000 in
theorem c_X5_changeConduct (l : Launch) (D : Gt) (T : List Nat) (ad : Nat → Nat) (σ : Mm) {nr ng : Nat} (hT : TG nr ng T) {b : Nat} (hb : b < 5) (x : Int32) : KI D l yX5_changeConduct (uws yX5_changeConduct cX5_changeConduct 3 (some .int)) (RM 3 0 0) [.ref (ad 0), .int (nI b), .int x] (T, ad, cO D ad σ) (fun r S1 => r = chg (σ 6 b) x ∧ S1 = (T, ad, cO D ad (up σ 6 b (chg (σ 6 b) x)))) (nX) 0 0 := by
  refine KI_of (own := RX5) (L0 := [some (.ref (ad 0)), some (.int (nI b)), some (.int x)]) (by decide +kernel) rfl (catc rfl (catc rfl (catc rfl cat0))) (Nat.le_of_ble_eq_true rfl) rfl ?_
  intro p e s m args below meth c A hnm C
  refine r_iload1 (pc := 0) C dX5_changeConduct_0 ?_
  refine r_aload0 (pc := 1) C dX5_changeConduct_1 ?_
  refine gX5_29 (pc := 2) C hT dX5_changeConduct_2 ?_
  refine l6 (pc := 5) C hT dX5_changeConduct_5 ?_
  refine kX5_74 (pc := 6) C (c_X5_isIn l D _ _ _) dX5_changeConduct_6 (Nat.le_of_ble_eq_true rfl) (by decide) ?_
  rintro _ _ ⟨rfl, rfl⟩
  refine r_if_ne_b (pc := 9) C (tgt := 14) dX5_changeConduct_9 (by decide) (fun c_9 => ?_) (fun c_9 => ?_)
  · refine r_aload0 (pc := 14) C dX5_changeConduct_14 ?_
    refine gX5_29 (pc := 15) C hT dX5_changeConduct_15 ?_
    refine r_iload1 (pc := 18) C dX5_changeConduct_18 ?_
    refine r_aload0 (pc := 19) C dX5_changeConduct_19 ?_
    refine gX5_29 (pc := 20) C hT dX5_changeConduct_20 ?_
    refine r_iload1 (pc := 23) C dX5_changeConduct_23 ?_
    refine a6 (pc := 24) C hT rfl (by omega) dX5_changeConduct_24 ?_
    refine r_iload2 (pc := 25) C dX5_changeConduct_25 ?_
    refine r_iadd (pc := 26) C dX5_changeConduct_26 ?_
    refine r_iconst (pc := 27) C (v := 0) dX5_changeConduct_27 (by decide) ?_
    refine r_bipush (pc := 28) C (v := 100) dX5_changeConduct_28 (by decide) ?_
    refine kX5_134 (pc := 30) C (c_X5_within l D _ _ _ _) dX5_changeConduct_30 (Nat.le_of_ble_eq_true rfl) (by decide) ?_
    rintro _ _ ⟨rfl, rfl⟩
    refine b6 (pc := 33) C hT rfl (by omega) dX5_changeConduct_33 ?_
    refine r_aload0 (pc := 34) C dX5_changeConduct_34 ?_
    refine gX5_29 (pc := 35) C hT dX5_changeConduct_35 ?_
    refine r_iload1 (pc := 38) C dX5_changeConduct_38 ?_
    refine a6 (pc := 39) C hT rfl (by omega) dX5_changeConduct_39 ?_
    exact r_iret C rfl dX5_changeConduct_40 (by first | (exact ⟨by rw [up_self]; rfl, rfl⟩) | (exfalso; exact c_9 ⟨nI_pos' (by omega), nI_lt (b := 5) (by omega) (by decide)⟩)) (by decide) (by decide)
  · refine r_iconst (pc := 12) C (v := (-1)) dX5_changeConduct_12 (by decide) ?_
    exact r_iret C rfl dX5_changeConduct_13 (by first | (exact ⟨by rw [up_self]; rfl, rfl⟩) | (exfalso; exact c_9 ⟨nI_pos' (by omega), nI_lt (b := 5) (by omega) (by decide)⟩)) (by decide) (by decide)

set_option maxRecDepth 100000 in
set_option maxHeartbeats 4000000 in
theorem c_X5_endTenderOf (l : Launch) (D : Gt) (T : List Nat) (ad : Nat → Nat) (σ : Mm) {nr ng : Nat} (hT : TG nr ng T) {i : Nat} (hi : i < nr) (ht : tOK nr σ) : KV D l yX5_endTenderOf (uws yX5_endTenderOf cX5_endTenderOf 2 none) (RM 2 0 0) [.ref (ad 0), .ref (ad (100 + i))] (T, ad, cO D ad σ) (fun S1 => S1 = (T, ad, cO D ad (endT σ i))) (nX) 0 0 := by
  refine KV_of (own := RX5) (L0 := [some (.ref (ad 0)), some (.ref (ad (100 + i)))]) (by decide +kernel) rfl (catc rfl (catc rfl cat0)) (Nat.le_of_ble_eq_true rfl) rfl ?_
  intro p e s m args below meth c A hnm C
  have h40 := hT.1
  refine r_inj (fun hinj => ?_)
  refine r_aload0 (pc := 0) C dX5_endTenderOf_0 ?_
  refine gX5_41 (pc := 1) C hT dX5_endTenderOf_1 ?_
  refine gX5_222 (pc := 4) C hT dX5_endTenderOf_4 ?_
  refine r_aload1 (pc := 7) C dX5_endTenderOf_7 ?_
  refine r_acmp_ne (pc := 8) C (rx := tdr ad (σ 9 0)) (ry := some (ad (100 + i))) (tgt := 18) dX5_endTenderOf_8 (by decide) (fun c_8 => ?_) (fun c_8 => ?_)
  · have e1 : endT σ i = σ := iF_f (fun q => c_8 (by rw [q, tdr_some (by omega)]))
    exact r_vret C rfl dX5_endTenderOf_18 (by rw [e1]) (by decide) (by decide)
  have e1 : endT σ i = up σ 9 0 0 := iF_t (by
    rcases ht with q | ⟨j, hj, q⟩
    · rw [q, tdr_0] at c_8; cases c_8
    · rw [q, tdr_some (by omega)] at c_8
      have h9 := hinj (100 + j) (100 + i) (hT.r hj) (hT.r hi) (Option.some.inj c_8)
      rw [q, show j = i by omega])
  rw [e1]
  refine r_aload0 (pc := 11) C dX5_endTenderOf_11 ?_
  refine gX5_41 (pc := 12) C hT dX5_endTenderOf_12 ?_
  refine kX5_232 (pc := 15) C (c_X4_end l D _ _ _ hT) (hT.f (by decide)) rfl dX5_endTenderOf_15 (Nat.le_of_ble_eq_true rfl) (by decide) ?_
  rintro _ rfl
  exact r_vret C rfl dX5_endTenderOf_18 (rfl) (by decide) (by decide)

set_option maxRecDepth 100000 in
set_option maxHeartbeats 4000000 in
theorem c_X5_outbids (l : Launch) (D : Gt) (T : List Nat) (ad : Nat → Nat) (σ : Mm) {nr ng : Nat} (hT : TG nr ng T) {b q : Nat} (hb : b < 5) (hq : q < 5) : KI D l yX5_outbids (uws yX5_outbids cX5_outbids 5 (some .boolean)) (RM 3 0 0) [.ref (ad 0), .int (nI b), .int (nI q)] (T, ad, cO D ad σ) (fun r S1 => r = bI (σ 10 q < σ 10 b ∨ (σ 10 b = σ 10 q ∧ σ 6 q < σ 6 b)) ∧ S1 = (T, ad, cO D ad σ)) (nX) 0 0 := by
  refine KI_of (own := RX5) (L0 := [some (.ref (ad 0)), some (.int (nI b)), some (.int (nI q)), none, none]) (by decide +kernel) rfl (catc rfl (catc rfl (catc rfl cat0))) (Nat.le_of_ble_eq_true rfl) rfl ?_
  intro p e s m args below meth c A hnm C
  refine r_aload0 (pc := 0) C dX5_outbids_0 ?_
  refine gX5_41 (pc := 1) C hT dX5_outbids_1 ?_
  refine r_iload1 (pc := 4) C dX5_outbids_4 ?_
  refine kX5_216 (pc := 5) C (c_X4_bidOf l D _ _ _ hT hb) (hT.f (by decide)) rfl dX5_outbids_5 (Nat.le_of_ble_eq_true rfl) (by decide) ?_
  rintro _ _ ⟨rfl, rfl⟩
  refine r_istore3 (pc := 8) C dX5_outbids_8 ?_
  refine r_aload0 (pc := 9) C dX5_outbids_9 ?_
  refine gX5_41 (pc := 10) C hT dX5_outbids_10 ?_
  refine r_iload2 (pc := 13) C dX5_outbids_13 ?_
  refine kX5_216 (pc := 14) C (c_X4_bidOf l D _ _ _ hT hq) (hT.f (by decide)) rfl dX5_outbids_14 (Nat.le_of_ble_eq_true rfl) (by decide) ?_
  rintro _ _ ⟨rfl, rfl⟩
  refine r_istore4 (pc := 17) C dX5_outbids_17 ?_
  refine r_iload3 (pc := 19) C dX5_outbids_19 ?_
  refine r_iload4 (pc := 20) C dX5_outbids_20 ?_
  refine r_icmp_ne (pc := 22) C (tgt := 49) dX5_outbids_22 (by decide) (fun c_22 => ?_) (fun c_22 => ?_)
  · have hb1 : 0 ≤ nI b ∧ nI b < nI 5 := ⟨nI_pos' (by omega), nI_lt (b := 5) (by omega) (by decide)⟩
    have hb2 : 0 ≤ nI q ∧ nI q < nI 5 := ⟨nI_pos' (by omega), nI_lt (b := 5) (by omega) (by decide)⟩
    refine r_iload3 (pc := 49) C dX5_outbids_49 ?_
    refine r_iload4 (pc := 50) C dX5_outbids_50 ?_
    refine r_icmp_le (pc := 52) C (tgt := 59) dX5_outbids_52 (by decide) (fun c_52 => ?_) (fun c_52 => ?_)
    · refine r_iconst (pc := 59) C (v := 0) dX5_outbids_59 (by decide) ?_
      exact r_zret C rfl rfl dX5_outbids_60 (by first | exact ⟨(bI_t (by grind)).symm, rfl⟩ | exact ⟨(bI_f (by grind)).symm, rfl⟩) (by decide) (by decide)
    · refine r_iconst (pc := 55) C (v := 1) dX5_outbids_55 (by decide) ?_
      refine r_goto (pc := 56) C (tgt := 60) dX5_outbids_56 (by decide) ?_
      exact r_zret C rfl rfl dX5_outbids_60 (by first | exact ⟨(bI_t (by grind)).symm, rfl⟩ | exact ⟨(bI_f (by grind)).symm, rfl⟩) (by decide) (by decide)
  · refine r_iload1 (pc := 25) C dX5_outbids_25 ?_
    refine r_aload0 (pc := 26) C dX5_outbids_26 ?_
    refine gX5_29 (pc := 27) C hT dX5_outbids_27 ?_
    refine l6 (pc := 30) C hT dX5_outbids_30 ?_
    refine kX5_74 (pc := 31) C (c_X5_isIn l D _ _ _) dX5_outbids_31 (Nat.le_of_ble_eq_true rfl) (by decide) ?_
    rintro _ _ ⟨rfl, rfl⟩
    refine r_if_eq_b (pc := 34) C (tgt := 49) dX5_outbids_34 (by decide) (fun c_34 => ?_) (fun c_34 => ?_)
    · have hb1 : 0 ≤ nI b ∧ nI b < nI 5 := ⟨nI_pos' (by omega), nI_lt (b := 5) (by omega) (by decide)⟩
      have hb2 : 0 ≤ nI q ∧ nI q < nI 5 := ⟨nI_pos' (by omega), nI_lt (b := 5) (by omega) (by decide)⟩
      refine r_iload3 (pc := 49) C dX5_outbids_49 ?_
      refine r_iload4 (pc := 50) C dX5_outbids_50 ?_
      refine r_icmp_le (pc := 52) C (tgt := 59) dX5_outbids_52 (by decide) (fun c_52 => ?_) (fun c_52 => ?_)
      · refine r_iconst (pc := 59) C (v := 0) dX5_outbids_59 (by decide) ?_
        exact r_zret C rfl rfl dX5_outbids_60 (by first | exact ⟨(bI_t (by grind)).symm, rfl⟩ | exact ⟨(bI_f (by grind)).symm, rfl⟩) (by decide) (by decide)
      · refine r_iconst (pc := 55) C (v := 1) dX5_outbids_55 (by decide) ?_
        refine r_goto (pc := 56) C (tgt := 60) dX5_outbids_56 (by decide) ?_
        exact r_zret C rfl rfl dX5_outbids_60 (by first | exact ⟨(bI_t (by grind)).symm, rfl⟩ | exact ⟨(bI_f (by grind)).symm, rfl⟩) (by decide) (by decide)
    · refine r_iload2 (pc := 37) C dX5_outbids_37 ?_
      refine r_aload0 (pc := 38) C dX5_outbids_38 ?_
      refine gX5_29 (pc := 39) C hT dX5_outbids_39 ?_
      refine l6 (pc := 42) C hT dX5_outbids_42 ?_
      refine kX5_74 (pc := 43) C (c_X5_isIn l D _ _ _) dX5_outbids_43 (Nat.le_of_ble_eq_true rfl) (by decide) ?_
      rintro _ _ ⟨rfl, rfl⟩
      refine r_if_ne_b (pc := 46) C (tgt := 61) dX5_outbids_46 (by decide) (fun c_46 => ?_) (fun c_46 => ?_)
      · refine r_aload0 (pc := 61) C dX5_outbids_61 ?_
        refine gX5_29 (pc := 62) C hT dX5_outbids_62 ?_
        refine r_iload1 (pc := 65) C dX5_outbids_65 ?_
        refine a6 (pc := 66) C hT rfl (by omega) dX5_outbids_66 ?_
        refine r_aload0 (pc := 67) C dX5_outbids_67 ?_
        refine gX5_29 (pc := 68) C hT dX5_outbids_68 ?_
        refine r_iload2 (pc := 71) C dX5_outbids_71 ?_
        refine a6 (pc := 72) C hT rfl (by omega) dX5_outbids_72 ?_
        refine r_icmp_le (pc := 73) C (tgt := 80) dX5_outbids_73 (by decide) (fun c_73 => ?_) (fun c_73 => ?_)
        · refine r_iconst (pc := 80) C (v := 0) dX5_outbids_80 (by decide) ?_
          exact r_zret C rfl rfl dX5_outbids_81 (by first | exact ⟨(bI_t (by grind)).symm, rfl⟩ | exact ⟨(bI_f (by grind)).symm, rfl⟩) (by decide) (by decide)
        · refine r_iconst (pc := 76) C (v := 1) dX5_outbids_76 (by decide) ?_
          refine r_goto (pc := 77) C (tgt := 81) dX5_outbids_77 (by decide) ?_
          exact r_zret C rfl rfl dX5_outbids_81 (by first | exact ⟨(bI_t (by grind)).symm, rfl⟩ | exact ⟨(bI_f (by grind)).symm, rfl⟩) (by decide) (by decide)
      · have hb1 : 0 ≤ nI b ∧ nI b < nI 5 := ⟨nI_pos' (by omega), nI_lt (b := 5) (by omega) (by decide)⟩
        have hb2 : 0 ≤ nI q ∧ nI q < nI 5 := ⟨nI_pos' (by omega), nI_lt (b := 5) (by omega) (by decide)⟩
        refine r_iload3 (pc := 49) C dX5_outbids_49 ?_
        refine r_iload4 (pc := 50) C dX5_outbids_50 ?_
        refine r_icmp_le (pc := 52) C (tgt := 59) dX5_outbids_52 (by decide) (fun c_52 => ?_) (fun c_52 => ?_)
        · refine r_iconst (pc := 59) C (v := 0) dX5_outbids_59 (by decide) ?_
          exact r_zret C rfl rfl dX5_outbids_60 (by first | exact ⟨(bI_t (by grind)).symm, rfl⟩ | exact ⟨(bI_f (by grind)).symm, rfl⟩) (by decide) (by decide)
        · refine r_iconst (pc := 55) C (v := 1) dX5_outbids_55 (by decide) ?_
          refine r_goto (pc := 56) C (tgt := 60) dX5_outbids_56 (by decide) ?_
          exact r_zret C rfl rfl dX5_outbids_60 (by first | exact ⟨(bI_t (by grind)).symm, rfl⟩ | exact ⟨(bI_f (by grind)).symm, rfl⟩) (by decide) (by decide)

set_option maxRecDepth 100000 in
set_option maxHeartbeats 4000000 in
theorem c_X5_tenderWinner (l : Launch) (D : Gt) (T : List Nat) (ad : Nat → Nat) (σ : Mm) {nr ng : Nat} (hT : TG nr ng T) : KI D l yX5_tenderWinner (uws yX5_tenderWinner cX5_tenderWinner 3 (some .int)) (RM 4 0 0) [.ref (ad 0)] (T, ad, cO D ad σ) (fun r S1 => r = twC σ 5 ∧ S1 = (T, ad, cO D ad σ)) (nX) 0 0 := by
  refine KI_of (own := RX5) (L0 := [some (.ref (ad 0)), none, none]) (by decide +kernel) rfl (catc rfl cat0) (Nat.le_of_ble_eq_true rfl) rfl ?_
  intro p e s m args below meth c A hnm C
  have loop : ∀ (z k : Nat), k ≤ 5 → 5 < k + z → V D A 3 (T, ad, cO D ad σ) p l e (RM 4 0 0) s m args below meth c 0 0 (vx_MQ below (va_Qi (fun r S1 => r = twC σ 5 ∧ S1 = (T, ad, cO D ad σ)) (PoB D A) A) (XCs D (T, ad, cO D ad σ) A (nX)) args s 0 0 A) 4 [some (.ref (ad 0)), some (.int (twC σ k)), some (.int (nI k))] [] := by
    intro z
    induction z with
    | zero => intro k h1 h2; omega
    | succ z ih =>
      intro k h1 h2
      have hk : nI k + 1 = nI (k + 1) := nI_1 k
      refine r_iload2 (pc := 4) C dX5_tenderWinner_4 ?_
      refine r_iconst (pc := 5) C (v := nI 5) dX5_tenderWinner_5 (by decide) ?_
      refine r_icmp_geN (pc := 6) C (tgt := 49) dX5_tenderWinner_6 (by decide) (by omega) (by omega) (fun c_6 => ?_) (fun c_6 => ?_)
      · refine r_iload1 (pc := 49) C dX5_tenderWinner_49 ?_
        exact r_iret C rfl dX5_tenderWinner_50 (⟨by rw [show k = 5 by omega], rfl⟩) (by decide) (by decide)
      · refine r_aload0 (pc := 9) C dX5_tenderWinner_9 ?_
        refine gX5_41 (pc := 10) C hT dX5_tenderWinner_10 ?_
        refine r_iload2 (pc := 13) C dX5_tenderWinner_13 ?_
        refine kX5_216 (pc := 14) C (c_X4_bidOf l D _ _ _ hT (by omega)) (hT.f (by decide)) rfl dX5_tenderWinner_14 (Nat.le_of_ble_eq_true rfl) (by decide) ?_
        rintro _ _ ⟨rfl, rfl⟩
        refine r_aload0 (pc := 17) C dX5_tenderWinner_17 ?_
        refine gX5_41 (pc := 18) C hT dX5_tenderWinner_18 ?_
        refine gX5_360 (pc := 21) C hT dX5_tenderWinner_21 ?_
        refine r_icmp_lt (pc := 24) C (tgt := 43) dX5_tenderWinner_24 (by decide) (fun c_24 => ?_) (fun c_24 => ?_)
        · refine r_iinc2 (pc := 43) C dX5_tenderWinner_43 hk ?_
          refine r_goto (pc := 46) C (tgt := 4) dX5_tenderWinner_46 (by decide) ?_
          first
          | (have e1 : twC σ (k + 1) = nI k := iF_t (by grind)
             rw [← e1]; exact ih (k + 1) (by omega) (by omega))
          | (have e1 : twC σ (k + 1) = twC σ k := iF_f (by grind)
             first
             | (rw [← e1]; exact ih (k + 1) (by omega) (by omega))
             | (have h3 := ih (k + 1) (by omega) (by omega); rw [e1, hbj] at h3; exact h3))
        · refine r_iload1 (pc := 27) C dX5_tenderWinner_27 ?_
          refine r_iconst (pc := 28) C (v := (-1)) dX5_tenderWinner_28 (by decide) ?_
          refine r_icmp_eq (pc := 29) C (tgt := 41) dX5_tenderWinner_29 (by decide) (fun c_29 => ?_) (fun c_29 => ?_)
          · refine r_iload2 (pc := 41) C dX5_tenderWinner_41 ?_
            refine r_istore1 (pc := 42) C dX5_tenderWinner_42 ?_
            refine r_iinc2 (pc := 43) C dX5_tenderWinner_43 hk ?_
            refine r_goto (pc := 46) C (tgt := 4) dX5_tenderWinner_46 (by decide) ?_
            first
            | (have e1 : twC σ (k + 1) = nI k := iF_t (by grind)
               rw [← e1]; exact ih (k + 1) (by omega) (by omega))
            | (have e1 : twC σ (k + 1) = twC σ k := iF_f (by grind)
               first
               | (rw [← e1]; exact ih (k + 1) (by omega) (by omega))
               | (have h3 := ih (k + 1) (by omega) (by omega); rw [e1, hbj] at h3; exact h3))
          · obtain ⟨j, hj, hbj⟩ : ∃ j, j < k ∧ twC σ k = nI j := (twC_ix σ k).resolve_left (by assumption)
            have hc : (twC σ k).toNatClampNeg = j := by rw [hbj, nI_clamp (by omega)]
            refine r_aload0 (pc := 32) C dX5_tenderWinner_32 ?_
            refine r_iload2 (pc := 33) C dX5_tenderWinner_33 ?_
            refine r_iload1 (pc := 34) C dX5_tenderWinner_34 ?_
            rw [hbj]
            refine kX5_363 (pc := 35) C (c_X5_outbids l D _ _ _ hT (q := j) (by omega) (by omega)) (hT.f (by decide)) rfl dX5_tenderWinner_35 (Nat.le_of_ble_eq_true rfl) (by decide) ?_
            rintro _ _ ⟨rfl, rfl⟩
            refine r_if_eq_b (pc := 38) C (tgt := 43) dX5_tenderWinner_38 (by decide) (fun c_38 => ?_) (fun c_38 => ?_)
            · refine r_iinc2 (pc := 43) C dX5_tenderWinner_43 hk ?_
              refine r_goto (pc := 46) C (tgt := 4) dX5_tenderWinner_46 (by decide) ?_
              first
              | (have e1 : twC σ (k + 1) = nI k := iF_t (by grind)
                 rw [← e1]; exact ih (k + 1) (by omega) (by omega))
              | (have e1 : twC σ (k + 1) = twC σ k := iF_f (by grind)
                 first
                 | (rw [← e1]; exact ih (k + 1) (by omega) (by omega))
                 | (have h3 := ih (k + 1) (by omega) (by omega); rw [e1, hbj] at h3; exact h3))
            · refine r_iload2 (pc := 41) C dX5_tenderWinner_41 ?_
              refine r_istore1 (pc := 42) C dX5_tenderWinner_42 ?_
              refine r_iinc2 (pc := 43) C dX5_tenderWinner_43 hk ?_
              refine r_goto (pc := 46) C (tgt := 4) dX5_tenderWinner_46 (by decide) ?_
              first
              | (have e1 : twC σ (k + 1) = nI k := iF_t (by grind)
                 rw [← e1]; exact ih (k + 1) (by omega) (by omega))
              | (have e1 : twC σ (k + 1) = twC σ k := iF_f (by grind)
                 first
                 | (rw [← e1]; exact ih (k + 1) (by omega) (by omega))
                 | (have h3 := ih (k + 1) (by omega) (by omega); rw [e1, hbj] at h3; exact h3))
  refine r_iconst (pc := 0) C (v := (-1)) dX5_tenderWinner_0 (by decide) ?_
  refine r_istore1 (pc := 1) C dX5_tenderWinner_1 ?_
  refine r_iconst (pc := 2) C (v := 0) dX5_tenderWinner_2 (by decide) ?_
  refine r_istore2 (pc := 3) C dX5_tenderWinner_3 ?_
  exact loop 6 0 (by omega) (by omega)

set_option maxRecDepth 100000 in
set_option maxHeartbeats 4000000 in
theorem c_X5_plannedAt (l : Launch) (D : Gt) (S : St) (fl : Int32) {k : Nat} (hk : k < 12) : KI D l yX5_plannedAt (uws yX5_plannedAt cX5_plannedAt 3 (some .int)) (RM 2 0 0) [.int fl, .int (nI k)] S (fun r S1 => r = nI (plN fl k) ∧ S1 = S) (nX) 0 0 := by
  refine KI_of (own := RX5) (L0 := [some (.int fl), some (.int (nI k)), none]) (by decide +kernel) rfl (catc rfl (catc rfl cat0)) (Nat.le_of_ble_eq_true rfl) rfl ?_
  intro p e s m args below meth c A hnm C
  have hq13 : endC fl 13 k = endC fl 12 k := endC_fuel fl 13 12 k (by omega) (by omega) (by omega)
  have loop : ∀ (f q : Nat), k ≤ q → q ≤ 12 → 12 < q + f → endC fl f q = endC fl 12 k → (¬ (0 < k ∧ clr fl (k - 1))) → V D A 3 S p l e (RM 2 0 0) s m args below meth c 0 0 (vx_MQ below (va_Qi (fun r S1 => r = nI (plN fl k) ∧ S1 = S) (PoB D A) A) (XCs D S A (nX)) args s 0 0 A) 18 [some (.int fl), some (.int (nI k)), some (.int (nI q))] [] := by
    intro f
    induction f with
    | zero => intro q h1 h2 h3; omega
    | succ f ih =>
      intro q h1 h2 h3 he hno
      have hk2 : nI q + 1 = nI (q + 1) := nI_1 q
      refine r_iload2 (pc := 18) C dX5_plannedAt_18 ?_
      refine r_bipush (pc := 19) C (v := nI 12) dX5_plannedAt_19 (by decide) ?_
      refine r_icmp_geN (pc := 21) C (tgt := 38) dX5_plannedAt_21 (by decide) (by omega) (by omega) (fun c_21 => ?_) (fun c_21 => ?_)
      · have hend : endC fl 12 k = q := by
          rw [← he]
          exact iF_f (fun h => by first | omega | exact absurd h.2 (by assumption))
        have hz : nI q - nI k = nI (q - k) := pk_sub (by omega)
        refine r_iload2 (pc := 38) C dX5_plannedAt_38 ?_
        refine r_iload1 (pc := 39) C dX5_plannedAt_39 ?_
        refine r_isub (pc := 40) C dX5_plannedAt_40 ?_
        refine kX5_369 (pc := 41) C (c_X5_worthwhile l D _ _) dX5_plannedAt_41 (Nat.le_of_ble_eq_true rfl) (by decide) ?_
        rintro _ _ ⟨rfl, rfl⟩
        exact r_iret C rfl dX5_plannedAt_44 (⟨by rw [hz, ww_I (by omega), plN, iF_f hno, hend], rfl⟩) (by decide) (by decide)
      · refine r_iload0 (pc := 24) C dX5_plannedAt_24 ?_
        refine r_iload2 (pc := 25) C dX5_plannedAt_25 ?_
        refine kX5_366 (pc := 26) C (c_X5_isClear l D _ _ _) dX5_plannedAt_26 (Nat.le_of_ble_eq_true rfl) (by decide) ?_
        rintro _ _ ⟨rfl, rfl⟩
        refine r_if_eq_b (pc := 29) C (tgt := 38) dX5_plannedAt_29 (by decide) (fun c_29 => ?_) (fun c_29 => ?_)
        · have hend : endC fl 12 k = q := by
            rw [← he]
            exact iF_f (fun h => by first | omega | exact absurd h.2 (by assumption))
          have hz : nI q - nI k = nI (q - k) := pk_sub (by omega)
          refine r_iload2 (pc := 38) C dX5_plannedAt_38 ?_
          refine r_iload1 (pc := 39) C dX5_plannedAt_39 ?_
          refine r_isub (pc := 40) C dX5_plannedAt_40 ?_
          refine kX5_369 (pc := 41) C (c_X5_worthwhile l D _ _) dX5_plannedAt_41 (Nat.le_of_ble_eq_true rfl) (by decide) ?_
          rintro _ _ ⟨rfl, rfl⟩
          exact r_iret C rfl dX5_plannedAt_44 (⟨by rw [hz, ww_I (by omega), plN, iF_f hno, hend], rfl⟩) (by decide) (by decide)
        · refine r_iinc2 (pc := 32) C dX5_plannedAt_32 hk2 ?_
          refine r_goto (pc := 35) C (tgt := 18) dX5_plannedAt_35 (by decide) ?_
          have e1 : endC fl (f + 1) q = endC fl f (q + 1) := iF_t ⟨by omega, by assumption⟩
          exact ih (q + 1) (by omega) (by omega) (by omega) (e1.symm.trans he) hno
  refine r_iload1 (pc := 0) C dX5_plannedAt_0 ?_
  refine r_if_le (pc := 1) (tgt := 16) C dX5_plannedAt_1 (by decide) (fun c_1 => ?_) (fun c_1 => ?_)
  · have hk0 : k = 0 := by
      rcases (show k = 0 ∨ 0 < k by omega) with q | q
      · exact q
      · exact absurd c_1 (nI_nle q (by omega))
    refine r_iload1 (pc := 16) C dX5_plannedAt_16 ?_
    refine r_istore2 (pc := 17) C dX5_plannedAt_17 ?_
    exact loop 13 k (Nat.le_refl k) (by omega) (by omega) hq13 (fun h => by omega)
  have hk0 : 0 < k := by
    rcases (show k = 0 ∨ 0 < k by omega) with q | q
    · subst q; exact absurd (Int32.le_refl 0) c_1
    · exact q
  refine r_iload0 (pc := 4) C dX5_plannedAt_4 ?_
  refine r_iload1 (pc := 5) C dX5_plannedAt_5 ?_
  refine r_iconst (pc := 6) C (v := 1) dX5_plannedAt_6 (by decide) ?_
  refine r_isub (pc := 7) C dX5_plannedAt_7 ?_
  rw [show nI k - 1 = nI (k - 1) from pk_sub (b := 1) hk0]
  refine kX5_366 (pc := 8) C (c_X5_isClear l D _ _ _) dX5_plannedAt_8 (Nat.le_of_ble_eq_true rfl) (by decide) ?_
  rintro _ _ ⟨rfl, rfl⟩
  refine r_if_eq_b (pc := 11) C (tgt := 16) dX5_plannedAt_11 (by decide) (fun c_11 => ?_) (fun c_11 => ?_)
  · refine r_iload1 (pc := 16) C dX5_plannedAt_16 ?_
    refine r_istore2 (pc := 17) C dX5_plannedAt_17 ?_
    exact loop 13 k (Nat.le_refl k) (by omega) (by omega) hq13 (fun h => absurd h.2 (by assumption))
  · refine r_iconst (pc := 14) C (v := 0) dX5_plannedAt_14 (by decide) ?_
    exact r_iret C rfl dX5_plannedAt_15 (⟨by rw [plN, iF_t ⟨by assumption, by assumption⟩]; rfl, rfl⟩) (by decide) (by decide)

set_option maxRecDepth 100000 in
set_option maxHeartbeats 4000000 in
theorem c_X5_plannedCount (l : Launch) (D : Gt) (S : St) (fl : Int32) : KI D l yX5_plannedCount (uws yX5_plannedCount cX5_plannedCount 3 (some .int)) (RM 3 0 0) [.int fl] S (fun r S1 => r = nI (pcN fl 12) ∧ S1 = S) (nX) 0 0 := by
  refine KI_of (own := RX5) (L0 := [some (.int fl), none, none]) (by decide +kernel) rfl (catc rfl cat0) (Nat.le_of_ble_eq_true rfl) rfl ?_
  intro p e s m args below meth c A hnm C
  have loop : ∀ (z k : Nat), k ≤ 12 → 12 < k + z → V D A 3 S p l e (RM 3 0 0) s m args below meth c 0 0 (vx_MQ below (va_Qi (fun r S1 => r = nI (pcN fl 12) ∧ S1 = S) (PoB D A) A) (XCs D S A (nX)) args s 0 0 A) 4 [some (.int fl), some (.int (nI (pcN fl k))), some (.int (nI k))] [] := by
    intro z
    induction z with
    | zero => intro k h1 h2; omega
    | succ z ih =>
      intro k h1 h2
      have hk : nI k + 1 = nI (k + 1) := nI_1 k
      refine r_iload2 (pc := 4) C dX5_plannedCount_4 ?_
      refine r_bipush (pc := 5) C (v := nI 12) dX5_plannedCount_5 (by decide) ?_
      refine r_icmp_geN (pc := 7) C (tgt := 27) dX5_plannedCount_7 (by decide) (by omega) (by omega) (fun c_7 => ?_) (fun c_7 => ?_)
      · refine r_iload1 (pc := 27) C dX5_plannedCount_27 ?_
        exact r_iret C rfl dX5_plannedCount_28 (⟨by rw [show k = 12 by omega], rfl⟩) (by decide) (by decide)
      · refine r_iload0 (pc := 10) C dX5_plannedCount_10 ?_
        refine r_iload2 (pc := 11) C dX5_plannedCount_11 ?_
        refine kX5_238 (pc := 12) C (c_X5_plannedAt l D _ _ (by omega)) dX5_plannedCount_12 (Nat.le_of_ble_eq_true rfl) (by decide) ?_
        rintro _ _ ⟨rfl, rfl⟩
        refine r_if_le (pc := 15) (tgt := 21) C dX5_plannedCount_15 (by decide) (fun c_15 => ?_) (fun c_15 => ?_)
        · have hz : ¬ 0 < plN fl k := fun q => absurd c_15 (nI_nle q (by have := plN_le fl k (by omega); omega))
          have e1 : pcN fl (k + 1) = pcN fl k := iF_f hz
          refine r_iinc2 (pc := 21) C dX5_plannedCount_21 hk ?_
          refine r_goto (pc := 24) C (tgt := 4) dX5_plannedCount_24 (by decide) ?_
          have h3 := ih (k + 1) (by omega) (by omega)
          rw [e1] at h3; exact h3
        have hz : 0 < plN fl k := by
          rcases (show plN fl k = 0 ∨ 0 < plN fl k by omega) with q | q
          · rw [q] at c_15; exact absurd (Int32.le_refl 0) c_15
          · exact q
        have e1 : pcN fl (k + 1) = pcN fl k + 1 := iF_t hz
        refine r_iinc1 (pc := 18) C dX5_plannedCount_18 (nI_1 (pcN fl k)) ?_
        refine r_iinc2 (pc := 21) C dX5_plannedCount_21 hk ?_
        refine r_goto (pc := 24) C (tgt := 4) dX5_plannedCount_24 (by decide) ?_
        have h3 := ih (k + 1) (by omega) (by omega)
        rw [e1] at h3; exact h3
  refine r_iconst (pc := 0) C (v := 0) dX5_plannedCount_0 (by decide) ?_
  refine r_istore1 (pc := 1) C dX5_plannedCount_1 ?_
  refine r_iconst (pc := 2) C (v := 0) dX5_plannedCount_2 (by decide) ?_
  refine r_istore2 (pc := 3) C dX5_plannedCount_3 ?_
  exact loop 13 0 (by omega) (by omega)

set_option maxRecDepth 100000 in
set_option maxHeartbeats 4000000 in
theorem c_X5_worthBetween (l : Launch) (D : Gt) (S : St) (fl : Int32) : KI D l yX5_worthBetween (uws yX5_worthBetween cX5_worthBetween 4 (some .int)) (RM 2 0 0) [.int fl] S (fun r S1 => r = nI ((wbW fl 12).1 + ww (wbW fl 12).2 * (wbW fl 12).2) ∧ S1 = S) (nX) 0 0 := by
  refine KI_of (own := RX5) (L0 := [some (.int fl), none, none, none]) (by decide +kernel) rfl (catc rfl cat0) (Nat.le_of_ble_eq_true rfl) rfl ?_
  intro p e s m args below meth c A hnm C
  have loop : ∀ (z k : Nat), k ≤ 12 → 12 < k + z → V D A 4 S p l e (RM 2 0 0) s m args below meth c 0 0 (vx_MQ below (va_Qi (fun r S1 => r = nI ((wbW fl 12).1 + ww (wbW fl 12).2 * (wbW fl 12).2) ∧ S1 = S) (PoB D A) A) (XCs D S A (nX)) args s 0 0 A) 6 [some (.int fl), some (.int (nI (wbW fl k).1)), some (.int (nI (wbW fl k).2)), some (.int (nI k))] [] := by
    intro z
    induction z with
    | zero => intro k h1 h2; omega
    | succ z ih =>
      intro k h1 h2
      have hk : nI k + 1 = nI (k + 1) := nI_1 k
      refine r_iload3 (pc := 6) C dX5_worthBetween_6 ?_
      refine r_bipush (pc := 7) C (v := nI 12) dX5_worthBetween_7 (by decide) ?_
      refine r_icmp_geN (pc := 9) C (tgt := 43) dX5_worthBetween_9 (by decide) (by omega) (by omega) (fun c_9 => ?_) (fun c_9 => ?_)
      · have hk12 : k = 12 := by omega
        subst hk12
        have hw := wbW_le fl 12
        refine r_iload1 (pc := 43) C dX5_worthBetween_43 ?_
        refine r_iload2 (pc := 44) C dX5_worthBetween_44 ?_
        refine kX5_369 (pc := 45) C (c_X5_worthwhile l D _ _) dX5_worthBetween_45 (Nat.le_of_ble_eq_true rfl) (by decide) ?_
        rintro _ _ ⟨rfl, rfl⟩
        refine r_iload2 (pc := 48) C dX5_worthBetween_48 ?_
        refine r_imul (pc := 49) C dX5_worthBetween_49 ?_
        refine r_iadd (pc := 50) C dX5_worthBetween_50 ?_
        rw [ww_I (by omega), pk_mul, nI_add]
        exact r_iret C rfl dX5_worthBetween_51 (⟨rfl, rfl⟩) (by decide) (by decide)
      · refine r_iload0 (pc := 12) C dX5_worthBetween_12 ?_
        refine r_iload3 (pc := 13) C dX5_worthBetween_13 ?_
        refine kX5_366 (pc := 14) C (c_X5_isClear l D _ _ _) dX5_worthBetween_14 (Nat.le_of_ble_eq_true rfl) (by decide) ?_
        rintro _ _ ⟨rfl, rfl⟩
        refine r_if_eq_b (pc := 17) C (tgt := 26) dX5_worthBetween_17 (by decide) (fun c_17 => ?_) (fun c_17 => ?_)
        · have e1 : wbW fl (k + 1) = ((wbW fl k).1 + ww (wbW fl k).2 * (wbW fl k).2, 0) := iF_f (by assumption)
          have hw := wbW_le fl k
          refine r_iload1 (pc := 26) C dX5_worthBetween_26 ?_
          refine r_iload2 (pc := 27) C dX5_worthBetween_27 ?_
          refine kX5_369 (pc := 28) C (c_X5_worthwhile l D _ _) dX5_worthBetween_28 (Nat.le_of_ble_eq_true rfl) (by decide) ?_
          rintro _ _ ⟨rfl, rfl⟩
          refine r_iload2 (pc := 31) C dX5_worthBetween_31 ?_
          refine r_imul (pc := 32) C dX5_worthBetween_32 ?_
          refine r_iadd (pc := 33) C dX5_worthBetween_33 ?_
          rw [ww_I (by omega), pk_mul, nI_add]
          refine r_istore1 (pc := 34) C dX5_worthBetween_34 ?_
          refine r_iconst (pc := 35) C (v := 0) dX5_worthBetween_35 (by decide) ?_
          refine r_istore2 (pc := 36) C dX5_worthBetween_36 ?_
          refine r_iinc3 (pc := 37) C dX5_worthBetween_37 hk ?_
          refine r_goto (pc := 40) C (tgt := 6) dX5_worthBetween_40 (by decide) ?_
          have h3 := ih (k + 1) (by omega) (by omega)
          rw [e1] at h3; exact h3
        · have e1 : wbW fl (k + 1) = ((wbW fl k).1, (wbW fl k).2 + 1) := iF_t (by assumption)
          refine r_iinc2 (pc := 20) C dX5_worthBetween_20 (nI_1 _) ?_
          refine r_goto (pc := 23) C (tgt := 37) dX5_worthBetween_23 (by decide) ?_
          refine r_iinc3 (pc := 37) C dX5_worthBetween_37 hk ?_
          refine r_goto (pc := 40) C (tgt := 6) dX5_worthBetween_40 (by decide) ?_
          have h3 := ih (k + 1) (by omega) (by omega)
          rw [e1] at h3; exact h3
  refine r_iconst (pc := 0) C (v := 0) dX5_worthBetween_0 (by decide) ?_
  refine r_istore1 (pc := 1) C dX5_worthBetween_1 ?_
  refine r_iconst (pc := 2) C (v := 0) dX5_worthBetween_2 (by decide) ?_
  refine r_istore2 (pc := 3) C dX5_worthBetween_3 ?_
  refine r_iconst (pc := 4) C (v := 0) dX5_worthBetween_4 (by decide) ?_
  refine r_istore3 (pc := 5) C dX5_worthBetween_5 ?_
  exact loop 13 0 (by omega) (by omega)


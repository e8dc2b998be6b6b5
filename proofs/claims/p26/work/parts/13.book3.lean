set_option maxRecDepth 100000 in
set_option maxHeartbeats 4000000 in
theorem c_X5_openBoxes (l : Launch) (D : Gt) (T : List Nat) (ad : Nat → Nat) (σ : Mm) {nr ng : Nat} (hT : TG nr ng T) (hp : PRs nr σ) : KV D l yX5_openBoxes (uws yX5_openBoxes cX5_openBoxes 5 none) (RM 2 0 0) [.ref (ad 0)] (T, ad, cO D ad σ) (fun S1 => S1 = (T, ad, cO D ad (upR (upR (opC σ 40) 7 (fillF (σ 7) (-1) 5)) 8 (fillF (σ 8) 0 5)))) (nX) 0 0 := by
  refine KV_of (own := RX5) (L0 := [some (.ref (ad 0)), none, none, none, none]) (by decide +kernel) rfl (catc rfl cat0) (Nat.le_of_ble_eq_true rfl) rfl ?_
  intro p e s m args below meth c A hnm C
  have loop : ∀ (z k : Nat) (x5 : Option Value), k ≤ 40 → 40 < k + z → V D A 5 (T, ad, cO D ad (opC σ k)) p l e (RM 2 0 0) s m args below meth c 0 0 (vx_MQ below (va_Qv (fun S1 => S1 = (T, ad, cO D ad (upR (upR (opC σ 40) 7 (fillF (σ 7) (-1) 5)) 8 (fillF (σ 8) 0 5)))) (PoB D A) A) (XCs D (T, ad, cO D ad σ) A (nX)) args s 0 0 A) 10 [some (.ref (ad 0)), some (.ref (ad 2)), some (.int (nI 40)), some (.int (nI k)), x5] [] := by
    intro z
    induction z with
    | zero => intro k x5 h1 h2; omega
    | succ z ih =>
      intro k x5 h1 h2
      have hk : nI k + 1 = nI (k + 1) := nI_1 k
      refine r_iload3 (pc := 10) C dX5_openBoxes_10 ?_
      refine r_iload2 (pc := 11) C dX5_openBoxes_11 ?_
      refine r_icmp_geN (pc := 12) C (tgt := 45) dX5_openBoxes_12 (by decide) (by omega) (by omega) (fun c_12 => ?_) (fun c_12 => ?_)
      · have hk40 : k = 40 := by omega
        refine r_aload0 (pc := 45) C dX5_openBoxes_45 ?_
        refine gX5_32 (pc := 46) C hT dX5_openBoxes_46 ?_
        refine r_iconst (pc := 49) C (v := (-1)) dX5_openBoxes_49 (by decide) ?_
        refine kX5_60 (pc := 50) C (c_J7_fill_53178 l D _ _ _ (hT.f (k := 7) (by decide)) (N := 5) (h := σ 7) (by rw [← opC_r σ (r := 7) (by decide) (by decide) k]; rfl) (by decide) _) dX5_openBoxes_50 (Nat.le_of_ble_eq_true rfl) (by decide) ?_
        rintro _ rfl
        rw [show va_up (cO D ad (opC σ k)) 7 (.inl (D.2 0, 5, .inl (fillF (σ 7) (-1) 5))) = cO D ad (upR (opC σ k) 7 (fillF (σ 7) (-1) 5)) from (funext fun q => (v_7 q).symm)]
        subst hk40
        refine r_aload0 (pc := 53) C dX5_openBoxes_53 ?_
        refine gX5_35 (pc := 54) C hT dX5_openBoxes_54 ?_
        refine r_iconst (pc := 57) C (v := 0) dX5_openBoxes_57 (by decide) ?_
        refine kX5_60 (pc := 58) C (c_J7_fill_53178 l D _ _ _ (hT.f (k := 8) (by decide)) (N := 5) (h := σ 8) (by rw [← opC_r σ (r := 8) (by decide) (by decide) 40]; rfl) (by decide) _) dX5_openBoxes_58 (Nat.le_of_ble_eq_true rfl) (by decide) ?_
        rintro _ rfl
        rw [show va_up (cO D ad (upR (opC σ 40) 7 (fillF (σ 7) (-1) 5))) 8 (.inl (D.2 0, 5, .inl (fillF (σ 8) 0 5))) = cO D ad (upR (upR (opC σ 40) 7 (fillF (σ 7) (-1) 5)) 8 (fillF (σ 8) 0 5)) from (funext fun q => (v_8 q).symm)]
        exact r_vret C rfl dX5_openBoxes_61 (rfl) (by decide) (by decide)
      · refine r_aload1 (pc := 15) C dX5_openBoxes_15 ?_
        refine r_iload3 (pc := 16) C dX5_openBoxes_16 ?_
        refine a2 (pc := 17) C hT rfl (by omega) dX5_openBoxes_17 (fun c_17 => ?_) (fun c_17 => ?_)
        · refine r_astoren4 (pc := 18) C dX5_openBoxes_18 ?_
          refine r_aloadn4 (pc := 20) C dX5_openBoxes_20 ?_
          refine r_ifnull_n (pc := 22) C (tgt := 39) dX5_openBoxes_22 (by decide) ?_
          refine r_iinc3 (pc := 39) C dX5_openBoxes_39 hk ?_
          refine r_goto (pc := 42) C (tgt := 10) dX5_openBoxes_42 (by decide) ?_
          first
          | (have e1 : opC σ (k + 1) = up (up (opC σ k) 28 k 0) 30 k (-1) := iF_t (by grind)
             have h3 := ih (k + 1) (some (.ref (ad (100 + k)))) (by omega) (by omega); rw [e1] at h3; exact h3)
          | (have e1 : opC σ (k + 1) = opC σ k := iF_f (by grind)
             have h3 := ih (k + 1); rw [e1] at h3; exact h3 _ (by omega) (by omega))
        · refine r_astore4 (pc := 18) C dX5_openBoxes_18 ?_
          refine r_aload4 (pc := 20) C dX5_openBoxes_20 ?_
          refine r_ifnull_r (pc := 22) C dX5_openBoxes_22 ?_
          have hi : k < nr := (hp k (by omega)).mp (by rw [opC_r σ (r := 2) (by decide) (by decide) k] at c_17; exact c_17)
          refine r_aload4 (pc := 25) C dX5_openBoxes_25 ?_
          refine gX5_109 (pc := 27) C hT (by assumption) dX5_openBoxes_27 ?_
          refine r_iconst (pc := 30) C (v := 1) dX5_openBoxes_30 (by decide) ?_
          refine r_icmp_ne (pc := 31) C (tgt := 39) dX5_openBoxes_31 (by decide) (fun c_31 => ?_) (fun c_31 => ?_)
          · refine r_iinc3 (pc := 39) C dX5_openBoxes_39 hk ?_
            refine r_goto (pc := 42) C (tgt := 10) dX5_openBoxes_42 (by decide) ?_
            first
            | (have e1 : opC σ (k + 1) = up (up (opC σ k) 28 k 0) 30 k (-1) := iF_t (by grind)
               have h3 := ih (k + 1) (some (.ref (ad (100 + k)))) (by omega) (by omega); rw [e1] at h3; exact h3)
            | (have e1 : opC σ (k + 1) = opC σ k := iF_f (by grind)
               have h3 := ih (k + 1); rw [e1] at h3; exact h3 _ (by omega) (by omega))
          · refine r_aload4 (pc := 34) C dX5_openBoxes_34 ?_
            refine kX5_194 (pc := 36) C (c_X3_leaveBox l D _ _ _ hT (by assumption)) (hT.r (by assumption)) (cO_ro hT (by assumption)) dX5_openBoxes_36 (Nat.le_of_ble_eq_true rfl) (by decide) ?_
            rintro _ rfl
            refine r_iinc3 (pc := 39) C dX5_openBoxes_39 hk ?_
            refine r_goto (pc := 42) C (tgt := 10) dX5_openBoxes_42 (by decide) ?_
            first
            | (have e1 : opC σ (k + 1) = up (up (opC σ k) 28 k 0) 30 k (-1) := iF_t (by grind)
               have h3 := ih (k + 1) (some (.ref (ad (100 + k)))) (by omega) (by omega); rw [e1] at h3; exact h3)
            | (have e1 : opC σ (k + 1) = opC σ k := iF_f (by grind)
               have h3 := ih (k + 1); rw [e1] at h3; exact h3 _ (by omega) (by omega))
  refine r_aload0 (pc := 0) C dX5_openBoxes_0 ?_
  refine gX5_15 (pc := 1) C hT dX5_openBoxes_1 ?_
  refine r_astore1 (pc := 4) C dX5_openBoxes_4 ?_
  refine r_aload1 (pc := 5) C dX5_openBoxes_5 ?_
  refine l2 (pc := 6) C hT dX5_openBoxes_6 ?_
  refine r_istore2 (pc := 7) C dX5_openBoxes_7 ?_
  refine r_iconst (pc := 8) C (v := 0) dX5_openBoxes_8 (by decide) ?_
  refine r_istore3 (pc := 9) C dX5_openBoxes_9 ?_
  exact loop 41 0 _ (by omega) (by omega)

set_option maxRecDepth 100000 in
set_option maxHeartbeats 4000000 in
theorem c_X5_dearestToBox (l : Launch) (D : Gt) (T : List Nat) (ad : Nat → Nat) (σ : Mm) {nr ng : Nat} (hT : TG nr ng T) (hp : PRs nr σ) (hq : ∀ i, i < nr → qOK (qualC σ i)) : KQ D l yX5_dearestToBox (uws yX5_dearestToBox cX5_dearestToBox 6 (some (.object "DiamondBook$Rough"))) (RM 5 0 0) [.ref (ad 0)] (T, ad, cO D ad σ) (fun r S1 => r = (deC σ 40).map (fun d => ad (100 + d)) ∧ S1 = (T, ad, cO D ad σ)) (nX) 0 0 := by
  refine KQ_of (own := RX5) (L0 := [some (.ref (ad 0)), none, none, none, none, none]) (by decide +kernel) rfl (catc rfl cat0) (Nat.le_of_ble_eq_true rfl) rfl ?_
  intro p e s m args below meth c A hnm C
  have loop : ∀ (z k : Nat) (x5 : Option Value), k ≤ 40 → 40 < k + z → V D A 6 (T, ad, cO D ad σ) p l e (RM 5 0 0) s m args below meth c 0 0 (vx_MQ below (va_Qq (fun r S1 => r = (deC σ 40).map (fun d => ad (100 + d)) ∧ S1 = (T, ad, cO D ad σ)) (PoB D A) A) (XCs D (T, ad, cO D ad σ) A (nX)) args s 0 0 A) 13 [some (.ref (ad 0)), some (va_rf ((deC σ k).map (fun d => ad (100 + d)))), some (.ref (ad 2)), some (.int (nI 40)), some (.int (nI k)), x5] [] := by
    intro z
    induction z with
    | zero => intro k x5 h1 h2; omega
    | succ z ih =>
      intro k x5 h1 h2
      have hk : nI k + 1 = nI (k + 1) := nI_1 k
      refine r_iload4 (pc := 13) C dX5_dearestToBox_13 ?_
      refine r_iload3 (pc := 15) C dX5_dearestToBox_15 ?_
      refine r_icmp_geN (pc := 16) C (tgt := 71) dX5_dearestToBox_16 (by decide) (by omega) (by omega) (fun c_16 => ?_) (fun c_16 => ?_)
      · refine r_aloadq1 (pc := 71) C dX5_dearestToBox_71 ?_
        exact r_qret C (r := _) rfl dX5_dearestToBox_72 (⟨by rw [show k = 40 by omega], rfl⟩) (by decide) (by decide)
      · refine r_aload2 (pc := 19) C dX5_dearestToBox_19 ?_
        refine r_iload4 (pc := 20) C dX5_dearestToBox_20 ?_
        refine a2 (pc := 22) C hT rfl (by omega) dX5_dearestToBox_22 (fun c_22 => ?_) (fun c_22 => ?_)
        · refine r_astoren5 (pc := 23) C dX5_dearestToBox_23 ?_
          refine r_aloadn5 (pc := 25) C dX5_dearestToBox_25 ?_
          refine r_ifnull_n (pc := 27) C (tgt := 65) dX5_dearestToBox_27 (by decide) ?_
          refine r_iinc4 (pc := 65) C dX5_dearestToBox_65 hk ?_
          refine r_goto (pc := 68) C (tgt := 13) dX5_dearestToBox_68 (by decide) ?_
          have e1 : deC σ (k + 1) = deC σ k := iF_f (by grind)
          have h3 := ih (k + 1); rw [e1] at h3; exact h3 _ (by omega) (by omega)
        · refine r_astore5 (pc := 23) C dX5_dearestToBox_23 ?_
          refine r_aload5 (pc := 25) C dX5_dearestToBox_25 ?_
          refine r_ifnull_r (pc := 27) C dX5_dearestToBox_27 ?_
          have hi : k < nr := (hp k (by omega)).mp (by assumption)
          refine r_aload5 (pc := 30) C dX5_dearestToBox_30 ?_
          refine kX5_351 (pc := 32) C (c_X3_canBeBoxed l D _ _ _ hT (by assumption)) (hT.r (by assumption)) (cO_ro hT (by assumption)) dX5_dearestToBox_32 (Nat.le_of_ble_eq_true rfl) (by decide) ?_
          rintro _ _ ⟨rfl, rfl⟩
          refine r_if_eq_b (pc := 35) C (tgt := 65) dX5_dearestToBox_35 (by decide) (fun c_35 => ?_) (fun c_35 => ?_)
          · refine r_iinc4 (pc := 65) C dX5_dearestToBox_65 hk ?_
            refine r_goto (pc := 68) C (tgt := 13) dX5_dearestToBox_68 (by decide) ?_
            have e1 : deC σ (k + 1) = deC σ k := iF_f (by grind)
            have h3 := ih (k + 1); rw [e1] at h3; exact h3 _ (by omega) (by omega)
          · cases hd : deC σ k with
            | none =>
              refine r_aloadn1 (pc := 38) C dX5_dearestToBox_38 ?_
              refine r_ifnull_n (pc := 39) C (tgt := 62) dX5_dearestToBox_39 (by decide) ?_
              refine r_aload5 (pc := 62) C dX5_dearestToBox_62 ?_
              refine r_astore1 (pc := 64) C dX5_dearestToBox_64 ?_
              refine r_iinc4 (pc := 65) C dX5_dearestToBox_65 hk ?_
              refine r_goto (pc := 68) C (tgt := 13) dX5_dearestToBox_68 (by decide) ?_
              first
              | (have e1 : deC σ (k + 1) = some k := iF_t (by grind)
                 have h3 := ih (k + 1) (some (.ref (ad (100 + k)))) (by omega) (by omega); rw [e1] at h3; exact h3)
              | (have e1 : deC σ (k + 1) = deC σ k := iF_f (by grind)
                 have h3 := ih (k + 1) (some (.ref (ad (100 + k)))) (by omega) (by omega); rw [e1, hd] at h3; exact h3)
            | some d =>
              have hdl := deC_lt σ k d hd
              have hid : d < nr := (hp d (by omega)).mp hdl.2.1
              refine r_aload1 (pc := 38) C dX5_dearestToBox_38 ?_
              refine r_ifnull_r (pc := 39) C dX5_dearestToBox_39 ?_
              refine r_aload0 (pc := 42) C dX5_dearestToBox_42 ?_
              refine gX5_25 (pc := 43) C hT dX5_dearestToBox_43 ?_
              refine r_aload5 (pc := 46) C dX5_dearestToBox_46 ?_
              refine kX5_149 (pc := 48) C (c_X2_worthOf l D _ _ _ hT (by assumption) (hq _ (by assumption))) (hT.f (by decide)) rfl dX5_dearestToBox_48 (Nat.le_of_ble_eq_true rfl) (by decide) ?_
              rintro _ _ ⟨rfl, rfl⟩
              refine r_aload0 (pc := 51) C dX5_dearestToBox_51 ?_
              refine gX5_25 (pc := 52) C hT dX5_dearestToBox_52 ?_
              refine r_aload1 (pc := 55) C dX5_dearestToBox_55 ?_
              refine kX5_149 (pc := 56) C (c_X2_worthOf l D _ _ _ hT (by assumption) (hq _ (by assumption))) (hT.f (by decide)) rfl dX5_dearestToBox_56 (Nat.le_of_ble_eq_true rfl) (by decide) ?_
              rintro _ _ ⟨rfl, rfl⟩
              refine r_icmp_le (pc := 59) C (tgt := 65) dX5_dearestToBox_59 (by decide) (fun c_59 => ?_) (fun c_59 => ?_)
              · refine r_iinc4 (pc := 65) C dX5_dearestToBox_65 hk ?_
                refine r_goto (pc := 68) C (tgt := 13) dX5_dearestToBox_68 (by decide) ?_
                first
                | (have e1 : deC σ (k + 1) = some k := iF_t (by grind)
                   have h3 := ih (k + 1) (some (.ref (ad (100 + k)))) (by omega) (by omega); rw [e1] at h3; exact h3)
                | (have e1 : deC σ (k + 1) = deC σ k := iF_f (by grind)
                   have h3 := ih (k + 1) (some (.ref (ad (100 + k)))) (by omega) (by omega); rw [e1, hd] at h3; exact h3)
              · refine r_aload5 (pc := 62) C dX5_dearestToBox_62 ?_
                refine r_astore1 (pc := 64) C dX5_dearestToBox_64 ?_
                refine r_iinc4 (pc := 65) C dX5_dearestToBox_65 hk ?_
                refine r_goto (pc := 68) C (tgt := 13) dX5_dearestToBox_68 (by decide) ?_
                first
                | (have e1 : deC σ (k + 1) = some k := iF_t (by grind)
                   have h3 := ih (k + 1) (some (.ref (ad (100 + k)))) (by omega) (by omega); rw [e1] at h3; exact h3)
                | (have e1 : deC σ (k + 1) = deC σ k := iF_f (by grind)
                   have h3 := ih (k + 1) (some (.ref (ad (100 + k)))) (by omega) (by omega); rw [e1, hd] at h3; exact h3)
  refine r_null (pc := 0) C dX5_dearestToBox_0 ?_
  refine r_astoren1 (pc := 1) C dX5_dearestToBox_1 ?_
  refine r_aload0 (pc := 2) C dX5_dearestToBox_2 ?_
  refine gX5_15 (pc := 3) C hT dX5_dearestToBox_3 ?_
  refine r_astore2 (pc := 6) C dX5_dearestToBox_6 ?_
  refine r_aload2 (pc := 7) C dX5_dearestToBox_7 ?_
  refine l2 (pc := 8) C hT dX5_dearestToBox_8 ?_
  refine r_istore3 (pc := 9) C dX5_dearestToBox_9 ?_
  refine r_iconst (pc := 10) C (v := 0) dX5_dearestToBox_10 (by decide) ?_
  refine r_istore4 (pc := 11) C dX5_dearestToBox_11 ?_
  exact loop 41 0 _ (by omega) (by omega)

set_option maxRecDepth 100000 in
set_option maxHeartbeats 4000000 in
theorem c_X5_fillBoxes (l : Launch) (D : Gt) (T : List Nat) (ad : Nat → Nat) (σ : Mm) {nr ng : Nat} (hT : TG nr ng T) (hp : PRs nr σ) (hq : ∀ i, i < nr → qOK (qualC σ i)) (ht : tOK nr σ) {nb : Nat} (hnb : σ 0 9 = nI nb) (hn5 : nb ≤ 5) (hn1 : 1 ≤ nb) : KI D l yX5_fillBoxes (uws yX5_fillBoxes cX5_fillBoxes 4 (some .int)) (RM 6 0 0) [.ref (ad 0)] (T, ad, cO D ad σ) (fun r S1 => r = nI (fillN 40 σ) ∧ S1 = (T, ad, cO D ad (fillG 40 σ))) (nX) 0 0 := by
  refine KI_of (own := RX5) (L0 := [some (.ref (ad 0)), none, none, none]) (by decide +kernel) rfl (catc rfl cat0) (Nat.le_of_ble_eq_true rfl) rfl ?_
  intro p e s m args below meth c A hnm C
  have h40 := hT.1
  obtain ⟨FN, hFN⟩ : ∃ N : Nat, fillN 40 σ = N := ⟨_, rfl⟩
  obtain ⟨FG, hFG⟩ : ∃ G : Mm, fillG 40 σ = G := ⟨_, rfl⟩
  rw [hFN, hFG]
  have loop : ∀ (z k : Nat) (τ : Mm) (x2 x3 : Option Value) (hI : PRs nr τ ∧ (∀ i, i < nr → qOK (qualC τ i)) ∧ τ 0 9 = nI nb ∧ tOK nr τ) (hf1 : fillG (40 - k) τ = FG) (hf2 : k + fillN (40 - k) τ = FN), k ≤ 40 → 40 < k + z → V D A 4 (T, ad, cO D ad τ) p l e (RM 6 0 0) s m args below meth c 0 0 (vx_MQ below (va_Qi (fun r S1 => r = nI FN ∧ S1 = (T, ad, cO D ad FG)) (PoB D A) A) (XCs D (T, ad, cO D ad σ) A (nX)) args s 0 0 A) 2 [some (.ref (ad 0)), some (.int (nI k)), x2, x3] [] := by
    intro z
    induction z with
    | zero => intro k τ x2 x3 hI hf1 hf2 h1 h2; omega
    | succ z ih =>
      intro k τ x2 x3 hI hf1 hf2 h1 h2
      have hk : nI k + 1 = nI (k + 1) := nI_1 k
      refine r_iload1 (pc := 2) C dX5_fillBoxes_2 ?_
      refine r_bipush (pc := 3) C (v := nI 40) dX5_fillBoxes_3 (by decide) ?_
      refine r_icmp_geN (pc := 5) C (tgt := 57) dX5_fillBoxes_5 (by decide) (by omega) (by omega) (fun c_5 => ?_) (fun c_5 => ?_)
      · refine r_iload1 (pc := 57) C dX5_fillBoxes_57 ?_
        exact r_iret C rfl dX5_fillBoxes_58 (⟨by rw [← hf2, show 40 - k = 0 by omega]; rw [show k = 40 by omega]; rfl, by rw [← hf1, show 40 - k = 0 by omega]; rfl⟩) (by decide) (by decide)
      · refine r_aload0 (pc := 8) C dX5_fillBoxes_8 ?_
        refine kX5_341 (pc := 9) C (c_X5_dearestToBox l D _ _ _ hT hI.1 hI.2.1) (hT.f (by decide)) rfl dX5_fillBoxes_9 (Nat.le_of_ble_eq_true rfl) (by decide) ?_
        rintro _ _ ⟨rfl, rfl⟩
        refine r_astoreq2 (pc := 12) C dX5_fillBoxes_12 ?_
        cases hd : deC τ 40 with
        | none =>
          refine r_aloadn2 (pc := 13) C dX5_fillBoxes_13 ?_
          refine r_ifnonnull_n (pc := 14) C dX5_fillBoxes_14 ?_
          refine r_goto (pc := 17) C (tgt := 57) dX5_fillBoxes_17 (by decide) ?_
          refine r_iload1 (pc := 57) C dX5_fillBoxes_57 ?_
          exact r_iret C rfl dX5_fillBoxes_58 (⟨by rw [← hf2, fillN_n _ hd, Nat.add_zero], by rw [← hf1, fillG_n _ hd]⟩) (by decide) (by decide)
        | some d =>
          have hdl := deC_lt τ 40 d hd
          have hid : d < nr := (hI.1 d (by omega)).mp hdl.2.1
          have hpb := pbC_le τ (nb - 1)
          refine r_aload2 (pc := 13) C dX5_fillBoxes_13 ?_
          refine r_ifnonnull_r (pc := 14) C (tgt := 20) dX5_fillBoxes_14 (by decide) ?_
          refine r_aload0 (pc := 20) C dX5_fillBoxes_20 ?_
          refine kX5_345 (pc := 21) C (c_X5_poorestBox l D _ _ _ hT hI.2.2.1 hn5 hn1) (hT.f (by decide)) rfl dX5_fillBoxes_21 (Nat.le_of_ble_eq_true rfl) (by decide) ?_
          rintro _ _ ⟨rfl, rfl⟩
          refine r_istore3 (pc := 24) C dX5_fillBoxes_24 ?_
          refine r_aload0 (pc := 25) C dX5_fillBoxes_25 ?_
          refine gX5_35 (pc := 26) C hT dX5_fillBoxes_26 ?_
          refine r_iload3 (pc := 29) C dX5_fillBoxes_29 ?_
          refine r_aload0 (pc := 30) C dX5_fillBoxes_30 ?_
          refine gX5_25 (pc := 31) C hT dX5_fillBoxes_31 ?_
          refine r_aload2 (pc := 34) C dX5_fillBoxes_34 ?_
          refine kX5_149 (pc := 35) C (c_X2_worthOf l D _ _ _ hT hid (hI.2.1 _ hid)) (hT.f (by decide)) rfl dX5_fillBoxes_35 (Nat.le_of_ble_eq_true rfl) (by decide) ?_
          rintro _ _ ⟨rfl, rfl⟩
          refine kX5_101 (pc := 38) C (c_X5_addTo l D _ _ _ (hT.f (k := 8) (by decide)) (N := 5) (h := τ 8) rfl (by decide) (b := pbC τ (nb - 1)) (by omega) _) dX5_fillBoxes_38 (Nat.le_of_ble_eq_true rfl) (by decide) ?_
          rintro _ rfl
          rw [show va_up (cO D ad τ) 8 (.inl (D.2 0, 5, .inl (upd (τ 8) (pbC τ (nb - 1)) (τ 8 (pbC τ (nb - 1)) + valC τ d)))) = cO D ad (up τ 8 (pbC τ (nb - 1)) (τ 8 (pbC τ (nb - 1)) + valC τ d)) from (funext fun q => (u_8 q).symm)]
          refine r_aload2 (pc := 41) C dX5_fillBoxes_41 ?_
          refine r_iload3 (pc := 42) C dX5_fillBoxes_42 ?_
          refine kX5_348 (pc := 43) C (c_X3_enterBox l D _ _ _ hT hid _) (hT.r (by assumption)) (cO_ro hT (by assumption)) dX5_fillBoxes_43 (Nat.le_of_ble_eq_true rfl) (by decide) ?_
          rintro _ rfl
          refine r_aload0 (pc := 46) C dX5_fillBoxes_46 ?_
          refine r_aload2 (pc := 47) C dX5_fillBoxes_47 ?_
          refine kX5_272 (pc := 48) C (c_X5_endTenderOf l D _ _ _ hT hid hI.2.2.2) (hT.f (by decide)) rfl dX5_fillBoxes_48 (Nat.le_of_ble_eq_true rfl) (by decide) ?_
          rintro _ rfl
          refine r_iinc1 (pc := 51) C dX5_fillBoxes_51 hk ?_
          refine r_goto (pc := 54) C (tgt := 2) dX5_fillBoxes_54 (by decide) ?_
          have hst : stepC τ d = endT (up (up (up τ 8 (pbC τ (nb - 1)) (τ 8 (pbC τ (nb - 1)) + valC τ d)) 28 d 1) 30 d (nI (pbC τ (nb - 1)))) d := by
            unfold stepC nbN
            rw [hI.2.2.1, nI_clamp (by omega)]
          rw [← hst]
          refine ih (k + 1) (stepC τ d) _ _ (stepC_I hI (Or.inr trivial)) ?_ ?_ (by omega) (by omega)
          · rw [← hf1, show 40 - k = (40 - (k + 1)) + 1 by omega, fillG_s _ hd]
          · rw [← hf2, show 40 - k = (40 - (k + 1)) + 1 by omega, fillN_s _ hd]; omega
  refine r_iconst (pc := 0) C (v := 0) dX5_fillBoxes_0 (by decide) ?_
  refine r_istore1 (pc := 1) C dX5_fillBoxes_1 ?_
  exact loop 41 0 σ _ _ ⟨hp, hq, hnb, ht⟩ (by rw [Nat.sub_zero, hFG]) (by rw [Nat.sub_zero, Nat.zero_add, hFN]) (by omega) (by omega)

set_option maxRecDepth 100000 in
set_option maxHeartbeats 4000000 in
theorem c_X5_offerBoxes (l : Launch) (D : Gt) (T : List Nat) (ad : Nat → Nat) (σ : Mm) {nr ng : Nat} (hT : TG nr ng T) {nb : Nat} (hnb : σ 0 9 = nI nb) (hn5 : nb ≤ 5) : KV D l yX5_offerBoxes (uws yX5_offerBoxes cX5_offerBoxes 4 none) (RM 3 0 0) [.ref (ad 0)] (T, ad, cO D ad σ) (fun S1 => S1 = (T, ad, cO D ad (offG σ nb))) (nX) 0 0 := by
  refine KV_of (own := RX5) (L0 := [some (.ref (ad 0)), none, none, none]) (by decide +kernel) rfl (catc rfl cat0) (Nat.le_of_ble_eq_true rfl) rfl ?_
  intro p e s m args below meth c A hnm C
  have loop : ∀ (z k : Nat) (x2 x3 : Option Value), k ≤ nb → nb < k + z → V D A 4 (T, ad, cO D ad (offG σ k)) p l e (RM 3 0 0) s m args below meth c 0 0 (vx_MQ below (va_Qv (fun S1 => S1 = (T, ad, cO D ad (offG σ nb))) (PoB D A) A) (XCs D (T, ad, cO D ad σ) A (nX)) args s 0 0 A) 2 [some (.ref (ad 0)), some (.int (nI k)), x2, x3] [] := by
    intro z
    induction z with
    | zero => intro k x2 x3 h1 h2; omega
    | succ z ih =>
      intro k x2 x3 h1 h2
      have hk : nI k + 1 = nI (k + 1) := nI_1 k
      refine r_iload1 (pc := 2) C dX5_offerBoxes_2 ?_
      have hnb1 : offG σ k 0 9 = nI nb := by rw [← hnb]; exact congrFun (offG_r σ (by decide) k) 9
      have hnb2 : nbN (offG σ k) = nb := by unfold nbN; rw [hnb1, nI_clamp (by omega)]
      refine r_aload0 (pc := 3) C dX5_offerBoxes_3 ?_
      refine gX5_180 (pc := 4) C hT dX5_offerBoxes_4 ?_
      rw [hnb1]
      refine r_icmp_geN (pc := 7) C (tgt := 45) dX5_offerBoxes_7 (by decide) (by omega) (by omega) (fun c_7 => ?_) (fun c_7 => ?_)
      · exact r_vret C rfl dX5_offerBoxes_45 (by rw [show k = nb by omega]) (by decide) (by decide)
      · refine r_aload0 (pc := 10) C dX5_offerBoxes_10 ?_
        refine kX5_354 (pc := 11) C (c_X5_bestFreeBuyer l D _ _ _ hT) (hT.f (by decide)) rfl dX5_offerBoxes_11 (Nat.le_of_ble_eq_true rfl) (by decide) ?_
        rintro _ _ ⟨rfl, rfl⟩
        refine r_istore2 (pc := 14) C dX5_offerBoxes_14 ?_
        refine r_aload0 (pc := 15) C dX5_offerBoxes_15 ?_
        refine kX5_357 (pc := 16) C (c_X5_richestFreeBox l D _ _ _ hT (nb := nb) (by rw [← hnb]; exact congrFun (offG_r σ (by decide) k) 9) hn5) (hT.f (by decide)) rfl dX5_offerBoxes_16 (Nat.le_of_ble_eq_true rfl) (by decide) ?_
        rintro _ _ ⟨rfl, rfl⟩
        refine r_istore3 (pc := 19) C dX5_offerBoxes_19 ?_
        refine r_iload2 (pc := 20) C dX5_offerBoxes_20 ?_
        refine r_aload0 (pc := 21) C dX5_offerBoxes_21 ?_
        refine gX5_32 (pc := 22) C hT dX5_offerBoxes_22 ?_
        refine l7 (pc := 25) C hT dX5_offerBoxes_25 ?_
        refine kX5_74 (pc := 26) C (c_X5_isIn l D _ _ _) dX5_offerBoxes_26 (Nat.le_of_ble_eq_true rfl) (by decide) ?_
        rintro _ _ ⟨rfl, rfl⟩
        refine r_if_eq_b (pc := 29) C (tgt := 39) dX5_offerBoxes_29 (by decide) (fun c_29 => ?_) (fun c_29 => ?_)
        · have e2 : offG σ (k + 1) = offG σ k := by
            show stepO (offG σ k) = _
            unfold stepO
            exact iF_t (by
              rcases bfC_ix (offG σ k) 5 with q | ⟨j, hj, q⟩
              · exact q
              · exact absurd (by rw [q]; exact ⟨nI_pos' (by omega), nI_lt (b := 5) (by omega) (by decide)⟩) c_29)
          refine r_iinc1 (pc := 39) C dX5_offerBoxes_39 hk ?_
          refine r_goto (pc := 42) C (tgt := 2) dX5_offerBoxes_42 (by decide) ?_
          first
          | (rw [← e2]; exact ih (k + 1) _ _ (by omega) (by omega))
          | exact ih (k + 1) _ _ (by omega) (by omega)
        · have hbf := (bfC_ix (offG σ k) 5)
          obtain ⟨j, hj, hbj⟩ : ∃ j, j < 5 ∧ bfC (offG σ k) 5 = nI j := hbf.resolve_left (fun q => by rw [q] at c_29; exact absurd c_29.1 (by decide))
          refine r_aload0 (pc := 32) C dX5_offerBoxes_32 ?_
          refine gX5_32 (pc := 33) C hT dX5_offerBoxes_33 ?_
          refine r_iload2 (pc := 36) C dX5_offerBoxes_36 ?_
          refine r_iload3 (pc := 37) C dX5_offerBoxes_37 ?_
          refine b7 (pc := 38) C hT hbj (by omega) dX5_offerBoxes_38 ?_
          have e1 : offG σ (k + 1) = up (offG σ k) 7 j (rfC (offG σ k) nb) := by
            show stepO (offG σ k) = _
            unfold stepO
            rw [iF_f (by rw [hbj]; exact nI_nem1 (by omega)), hbj, nI_clamp (by omega), hnb2]
          rw [← e1]
          refine r_iinc1 (pc := 39) C dX5_offerBoxes_39 hk ?_
          refine r_goto (pc := 42) C (tgt := 2) dX5_offerBoxes_42 (by decide) ?_
          first
          | (rw [← e2]; exact ih (k + 1) _ _ (by omega) (by omega))
          | exact ih (k + 1) _ _ (by omega) (by omega)
  refine r_iconst (pc := 0) C (v := 0) dX5_offerBoxes_0 (by decide) ?_
  refine r_istore1 (pc := 1) C dX5_offerBoxes_1 ?_
  exact loop (nb + 1) 0 _ _ (by omega) (by omega)

set_option maxRecDepth 100000 in
set_option maxHeartbeats 4000000 in
theorem c_X5_keepGem (l : Launch) (D : Gt) (T : List Nat) (ad : Nat → Nat) (σ : Mm) {nr ng : Nat} (hT : TG nr ng T) {g : Nat} (hg : g < ng) (h12 : σ 0 12 = nI g) : KV D l yX5_keepGem (uws yX5_keepGem cX5_keepGem 2 none) (RM 2 0 0) [.ref (ad 0), .ref (ad (200 + g))] (T, ad, cO D ad σ) (fun S1 => S1 = (T, ad, cO D ad (up (up (up σ 11 g 1) 0 12 (nI (g + 1))) 0 13 (σ 0 13 - σ 47 g)))) (nX) 0 0 := by
  refine KV_of (own := RX5) (L0 := [some (.ref (ad 0)), some (.ref (ad (200 + g)))]) (by decide +kernel) rfl (catc rfl (catc rfl cat0)) (Nat.le_of_ble_eq_true rfl) rfl ?_
  intro p e s m args below meth c A hnm C
  have h80 := hT.2.1
  refine r_aload0 (pc := 0) C dX5_keepGem_0 ?_
  refine gX5_254 (pc := 1) C hT dX5_keepGem_1 ?_
  refine r_aload0 (pc := 4) C dX5_keepGem_4 ?_
  refine gX5_47 (pc := 5) C hT dX5_keepGem_5 ?_
  refine l11 (pc := 8) C hT dX5_keepGem_8 ?_
  refine kX5_74 (pc := 9) C (c_X5_isIn l D _ _ _) dX5_keepGem_9 (Nat.le_of_ble_eq_true rfl) (by decide) ?_
  rintro _ _ ⟨rfl, rfl⟩
  refine r_if_eq_b (pc := 12) C (tgt := 48) dX5_keepGem_12 (by decide) (fun c_12 => ?_) (fun c_12 => ?_)
  · exact r_vret C rfl dX5_keepGem_48 (by first | rfl | (exfalso; exact c_12 (by rw [h12]; exact ⟨nI_pos' (by omega), nI_lt (b := 80) (by omega) (by decide)⟩))) (by decide) (by decide)
  · refine r_aload0 (pc := 15) C dX5_keepGem_15 ?_
    refine gX5_47 (pc := 16) C hT dX5_keepGem_16 ?_
    refine r_aload0 (pc := 19) C dX5_keepGem_19 ?_
    refine gX5_254 (pc := 20) C hT dX5_keepGem_20 ?_
    refine r_aload1 (pc := 23) C dX5_keepGem_23 ?_
    refine b11 (pc := 24) C hT hg h12 dX5_keepGem_24 ?_
    refine r_aload0 (pc := 25) C dX5_keepGem_25 ?_
    refine r_dup (pc := 26) C dX5_keepGem_26 rfl ?_
    refine gX5_254 (pc := 27) C hT dX5_keepGem_27 ?_
    refine r_iconst (pc := 30) C (v := 1) dX5_keepGem_30 (by decide) ?_
    refine r_iadd (pc := 31) C dX5_keepGem_31 ?_
    rw [show (up σ 11 g 1) 0 12 + 1 = nI (g + 1) by rw [show (up σ 11 g 1) 0 12 = σ 0 12 from rfl, h12]; exact nI_1 g]
    refine pX5_254 (pc := 32) C hT dX5_keepGem_32 ?_
    refine r_aload0 (pc := 35) C dX5_keepGem_35 ?_
    refine r_dup (pc := 36) C dX5_keepGem_36 rfl ?_
    refine gX5_259 (pc := 37) C hT dX5_keepGem_37 ?_
    refine r_aload1 (pc := 40) C dX5_keepGem_40 ?_
    refine gX5_280 (pc := 41) C hT (by assumption) dX5_keepGem_41 ?_
    refine r_isub (pc := 44) C dX5_keepGem_44 ?_
    refine pX5_259 (pc := 45) C hT dX5_keepGem_45 ?_
    exact r_vret C rfl dX5_keepGem_48 (by first | rfl | (exfalso; exact c_12 (by rw [h12]; exact ⟨nI_pos' (by omega), nI_lt (b := 80) (by omega) (by decide)⟩))) (by decide) (by decide)


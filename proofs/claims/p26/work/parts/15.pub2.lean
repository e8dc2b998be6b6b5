set_option maxRecDepth 100000 in
set_option maxHeartbeats 4000000 in
theorem c_X5_boxes (l : Launch) (D : Gt) (hfl : l.stackTraces = false) (T : List Nat) (ad : Nat → Nat) (σ : Mm) {nr ng np nb : Nat} (hT : TG nr ng T) (hI : IC nr ng np nb σ) (x : Int32) : KI D l yX5_boxes (uws yX5_boxes cX5_boxes 3 (some .int)) (RM 9 40 400) [.ref (ad 0), .int x] (T, ad, cO D ad σ) (fun r S1 => ∃ m, 1 ≤ m ∧ m ≤ 5 ∧ x = nI m ∧ r = nI (fillN 40 (opB σ (nI m))) ∧ S1 = (T, ad, cO D ad (offG (fillG 40 (opB σ (nI m))) m))) (fun E => E = sIAE ∧ ¬ (1 ≤ x ∧ x ≤ 5)) 40 400 := by
  refine KI_of (own := RX5) (L0 := [some (.ref (ad 0)), some (.int x), none]) (by decide +kernel) rfl (catc rfl (catc rfl cat0)) (Nat.le_of_ble_eq_true rfl) rfl ?_
  intro p e s m args below meth c A hnm C
  refine r_iload1 (pc := 0) C dX5_boxes_0 ?_
  refine r_iconst (pc := 1) C (v := 1) dX5_boxes_1 (by decide) ?_
  refine r_iconst (pc := 2) C (v := 5) dX5_boxes_2 (by decide) ?_
  refine kX5_85x (pc := 3) C (c_X5_needRange l D hfl _ _ _ _) dX5_boxes_3 (Nat.le_of_ble_eq_true rfl) (by decide) (fun E h => h) (fun _ => rfl) ?_
  rintro _ ⟨h1, rfl⟩
  obtain ⟨m, hm1, hm5, rfl⟩ := rg_of (a := 1) (b := 5) (by decide) h1
  refine r_aload0 (pc := 6) C dX5_boxes_6 ?_
  refine kX5_177 (pc := 7) C (c_X5_openBoxes l D _ _ _ hT hI.1) (hT.f (by decide)) rfl dX5_boxes_7 (Nat.le_of_ble_eq_true rfl) (by decide) ?_
  rintro _ rfl
  refine r_aload0 (pc := 10) C dX5_boxes_10 ?_
  refine r_iload1 (pc := 11) C dX5_boxes_11 ?_
  refine pX5_180 (pc := 12) C hT dX5_boxes_12 ?_
  rw [show up (upR (upR (opC σ 40) 7 (fillF (σ 7) (-1) 5)) 8 (fillF (σ 8) 0 5)) 0 9 (nI m) = opB σ (nI m) from rfl]
  refine r_aload0 (pc := 15) C dX5_boxes_15 ?_
  refine kX5_183 (pc := 16) C (c_X5_fillBoxes l D _ _ (opB σ (nI m)) hT (PRs_cg (opB_r σ _ (by decide) (by decide) (by decide) (by decide) (by decide)) hI.1) (fun i hi => by rw [qualC_cg (opB_r σ _ (by decide) (by decide) (by decide) (by decide) (by decide)) (opB_r σ _ (by decide) (by decide) (by decide) (by decide) (by decide)) (opB_r σ _ (by decide) (by decide) (by decide) (by decide) (by decide)) (opB_r σ _ (by decide) (by decide) (by decide) (by decide) (by decide))]; exact hI.2.2.2.2.2.2.2.1 i hi) (tOK_cg (opB_r σ _ (by decide) (by decide) (by decide) (by decide) (by decide)) hI.2.2.2.2.2.2.1) (nb := m) rfl hm5 hm1) (hT.f (by decide)) rfl dX5_boxes_16 (Nat.le_of_ble_eq_true rfl) (by decide) ?_
  rintro _ _ ⟨rfl, rfl⟩
  refine r_istore2 (pc := 19) C dX5_boxes_19 ?_
  refine r_aload0 (pc := 20) C dX5_boxes_20 ?_
  refine kX5_186 (pc := 21) C (c_X5_offerBoxes l D _ _ _ hT (nb := m) (by rw [fillG_r (by decide) (by decide) (by decide) (by decide)]; rfl) hm5) (hT.f (by decide)) rfl dX5_boxes_21 (Nat.le_of_ble_eq_true rfl) (by decide) ?_
  rintro _ rfl
  refine r_iload2 (pc := 24) C dX5_boxes_24 ?_
  exact r_iret C rfl dX5_boxes_25 (⟨m, hm1, hm5, rfl, rfl, rfl⟩) (by decide) (by decide)

set_option maxRecDepth 100000 in
set_option maxHeartbeats 4000000 in
theorem c_X5_boxValue (l : Launch) (D : Gt) (hfl : l.stackTraces = false) (T : List Nat) (ad : Nat → Nat) (σ : Mm) {nr ng np nb : Nat} (hT : TG nr ng T) (hI : IC nr ng np nb σ) (x : Int32) : KI D l yX5_boxValue (uws yX5_boxValue cX5_boxValue 7 (some .int)) (RM 9 2 12) [.ref (ad 0), .int x] (T, ad, cO D ad σ) (fun r S1 => ∃ j, j < nb ∧ x = nI j ∧ r = iF (offd σ (nI j)) (bvC σ (nI j) 40) (-1) ∧ S1 = (T, ad, cO D ad σ)) (fun E => E = sIOB ∧ ¬ (0 ≤ x ∧ x < nI nb)) 2 12 := by
  refine KI_of (own := RX5) (L0 := [some (.ref (ad 0)), some (.int x), none, none, none, none, none]) (by decide +kernel) rfl (catc rfl (catc rfl cat0)) (Nat.le_of_ble_eq_true rfl) rfl ?_
  intro p e s m args below meth c A hnm C
  have hnb := hI.2.2.2.2.2.1.1
  have hn5 := hI.2.2.2.2.2.1.2
  refine r_iload1 (pc := 0) C dX5_boxValue_0 ?_
  refine r_aload0 (pc := 1) C dX5_boxValue_1 ?_
  refine gX5_180 (pc := 2) C hT dX5_boxValue_2 ?_
  rw [hnb]
  refine kX5_66x (pc := 5) C (c_X5_needIndex l D hfl _ _ _) dX5_boxValue_5 (Nat.le_of_ble_eq_true rfl) (by decide) (fun E h => h) (fun _ => rfl) ?_
  rintro _ ⟨h1, rfl⟩
  obtain ⟨j, hj, rfl⟩ := ix_of (N := nb) (by omega) h1
  refine r_aload0 (pc := 8) C dX5_boxValue_8 ?_
  refine r_iload1 (pc := 9) C dX5_boxValue_9 ?_
  refine kX5_189 (pc := 10) C (c_X5_isOffered l D _ _ _ hT _) (hT.f (by decide)) rfl dX5_boxValue_10 (Nat.le_of_ble_eq_true rfl) (by decide) ?_
  rintro _ _ ⟨rfl, rfl⟩
  refine r_if_ne_b (pc := 13) C (tgt := 18) dX5_boxValue_13 (by decide) (fun c_13 => ?_) (fun c_13 => ?_)
  · have loop : ∀ (z k : Nat) (x6 : Option Value), k ≤ 40 → 40 < k + z → V D A 7 (T, ad, cO D ad σ) p l e (RM 9 2 12) s m args below meth c 1 6 (vx_MQ below (va_Qi (fun r S1 => ∃ j0, j0 < nb ∧ nI j = nI j0 ∧ r = iF (offd σ (nI j0)) (bvC σ (nI j0) 40) (-1) ∧ S1 = (T, ad, cO D ad σ)) (PoB D A) A) (XCs D (T, ad, cO D ad σ) A (fun E => E = sIOB ∧ ¬ (0 ≤ nI j ∧ nI j < nI nb))) args s 2 12 A) 32 [some (.ref (ad 0)), some (.int (nI j)), some (.int (bvC σ (nI j) k)), some (.ref (ad 2)), some (.int (nI 40)), some (.int (nI k)), x6] [] := by
      intro z
      induction z with
      | zero => intro k x6 h1 h2; omega
      | succ z ih =>
        intro k x6 h1 h2
        have hk : nI k + 1 = nI (k + 1) := nI_1 k
        refine r_iload5 (pc := 32) C dX5_boxValue_32 ?_
        refine r_iload4 (pc := 34) C dX5_boxValue_34 ?_
        refine r_icmp_geN (pc := 36) C (tgt := 77) dX5_boxValue_36 (by decide) (by omega) (by omega) (fun c_36 => ?_) (fun c_36 => ?_)
        · refine r_iload2 (pc := 77) C dX5_boxValue_77 ?_
          exact r_iret C rfl dX5_boxValue_78 (⟨j, hj, rfl, by rw [show k = 40 by omega]; exact (iF_t (by assumption)).symm, rfl⟩) (by decide) (by decide)
        · refine r_aload3 (pc := 39) C dX5_boxValue_39 ?_
          refine r_iload5 (pc := 40) C dX5_boxValue_40 ?_
          refine a2 (pc := 42) C hT rfl (by omega) dX5_boxValue_42 (fun c_42 => ?_) (fun c_42 => ?_)
          · refine r_astoren6 (pc := 43) C dX5_boxValue_43 ?_
            refine r_aloadn6 (pc := 45) C dX5_boxValue_45 ?_
            refine r_ifnull_n (pc := 47) C (tgt := 71) dX5_boxValue_47 (by decide) ?_
            refine r_iinc5 (pc := 71) C dX5_boxValue_71 hk ?_
            refine r_goto (pc := 74) C (tgt := 32) dX5_boxValue_74 (by decide) ?_
            first
            | (have e1 : bvC σ (nI j) (k + 1) = bvC σ (nI j) k + valC σ k := iF_t (by grind)
               have h3 := ih (k + 1); rw [e1] at h3; exact h3 _ (by omega) (by omega))
            | (have e1 : bvC σ (nI j) (k + 1) = bvC σ (nI j) k := iF_f (by grind)
               have h3 := ih (k + 1); rw [e1] at h3; exact h3 _ (by omega) (by omega))
          · refine r_astore6 (pc := 43) C dX5_boxValue_43 ?_
            refine r_aload6 (pc := 45) C dX5_boxValue_45 ?_
            refine r_ifnull_r (pc := 47) C dX5_boxValue_47 ?_
            have hi : k < nr := (hI.1 k (by omega)).mp (by assumption)
            refine r_aload6 (pc := 50) C dX5_boxValue_50 ?_
            refine gX5_163 (pc := 52) C hT (by assumption) dX5_boxValue_52 ?_
            refine r_iload1 (pc := 55) C dX5_boxValue_55 ?_
            refine r_icmp_ne (pc := 56) C (tgt := 71) dX5_boxValue_56 (by decide) (fun c_56 => ?_) (fun c_56 => ?_)
            · refine r_iinc5 (pc := 71) C dX5_boxValue_71 hk ?_
              refine r_goto (pc := 74) C (tgt := 32) dX5_boxValue_74 (by decide) ?_
              first
              | (have e1 : bvC σ (nI j) (k + 1) = bvC σ (nI j) k + valC σ k := iF_t (by grind)
                 have h3 := ih (k + 1); rw [e1] at h3; exact h3 _ (by omega) (by omega))
              | (have e1 : bvC σ (nI j) (k + 1) = bvC σ (nI j) k := iF_f (by grind)
                 have h3 := ih (k + 1); rw [e1] at h3; exact h3 _ (by omega) (by omega))
            · refine r_iload2 (pc := 59) C dX5_boxValue_59 ?_
              refine r_aload0 (pc := 60) C dX5_boxValue_60 ?_
              refine gX5_25 (pc := 61) C hT dX5_boxValue_61 ?_
              refine r_aload6 (pc := 64) C dX5_boxValue_64 ?_
              refine kX5_149 (pc := 66) C (c_X2_worthOf l D _ _ _ hT (by assumption) (hI.2.2.2.2.2.2.2.1 _ (by assumption))) (hT.f (by decide)) rfl dX5_boxValue_66 (Nat.le_of_ble_eq_true rfl) (by decide) ?_
              rintro _ _ ⟨rfl, rfl⟩
              refine r_iadd (pc := 69) C dX5_boxValue_69 ?_
              refine r_istore2 (pc := 70) C dX5_boxValue_70 ?_
              refine r_iinc5 (pc := 71) C dX5_boxValue_71 hk ?_
              refine r_goto (pc := 74) C (tgt := 32) dX5_boxValue_74 (by decide) ?_
              first
              | (have e1 : bvC σ (nI j) (k + 1) = bvC σ (nI j) k + valC σ k := iF_t (by grind)
                 have h3 := ih (k + 1); rw [e1] at h3; exact h3 _ (by omega) (by omega))
              | (have e1 : bvC σ (nI j) (k + 1) = bvC σ (nI j) k := iF_f (by grind)
                 have h3 := ih (k + 1); rw [e1] at h3; exact h3 _ (by omega) (by omega))
    refine r_iconst (pc := 18) C (v := 0) dX5_boxValue_18 (by decide) ?_
    refine r_istore2 (pc := 19) C dX5_boxValue_19 ?_
    refine r_aload0 (pc := 20) C dX5_boxValue_20 ?_
    refine gX5_15 (pc := 21) C hT dX5_boxValue_21 ?_
    refine r_astore3 (pc := 24) C dX5_boxValue_24 ?_
    refine r_aload3 (pc := 25) C dX5_boxValue_25 ?_
    refine l2 (pc := 26) C hT dX5_boxValue_26 ?_
    refine r_istore4 (pc := 27) C dX5_boxValue_27 ?_
    refine r_iconst (pc := 29) C (v := 0) dX5_boxValue_29 (by decide) ?_
    refine r_istore5 (pc := 30) C dX5_boxValue_30 ?_
    exact loop 41 0 _ (by omega) (by omega)
  · refine r_iconst (pc := 16) C (v := (-1)) dX5_boxValue_16 (by decide) ?_
    exact r_iret C rfl dX5_boxValue_17 (⟨j, hj, rfl, (iF_f (by assumption)).symm, rfl⟩) (by decide) (by decide)

set_option maxRecDepth 100000 in
set_option maxHeartbeats 4000000 in
theorem c_X5_take (l : Launch) (D : Gt) (hfl : l.stackTraces = false) (T : List Nat) (ad : Nat → Nat) (σ : Mm) {nr ng np nb : Nat} (hT : TG nr ng T) (hI : IC nr ng np nb σ) (x t : Int32) : KI D l yX5_take (uws yX5_take cX5_take 8 (some .int)) (RM 9 40 400) [.ref (ad 0), .int x, .int t] (T, ad, cO D ad σ) (fun r S1 => ∃ j, j < 5 ∧ x = nI j ∧ ¬ σ 7 j = -1 ∧ r = chg (σ 6 j) (iF (t = 0) (-10) 5) ∧ S1 = (T, ad, cO D ad (up (up (tkC σ (σ 7 j) (nI j) t 40) 7 j (-1)) 6 j (chg (σ 6 j) (iF (t = 0) (-10) 5))))) (fun E => (E = sIOB ∧ ¬ (0 ≤ x ∧ x < nI 5)) ∨ (E = sISE ∧ (0 ≤ x ∧ x < nI 5) ∧ ∃ j, j < 5 ∧ x = nI j ∧ σ 7 j = -1)) 40 400 := by
  refine KI_of (own := RX5) (L0 := [some (.ref (ad 0)), some (.int x), some (.int t), none, none, none, none, none]) (by decide +kernel) rfl (catc rfl (catc rfl (catc rfl cat0))) (Nat.le_of_ble_eq_true rfl) rfl ?_
  intro p e s m args below meth c A hnm C
  refine r_iload1 (pc := 0) C dX5_take_0 ?_
  refine r_aload0 (pc := 1) C dX5_take_1 ?_
  refine gX5_32 (pc := 2) C hT dX5_take_2 ?_
  refine l7 (pc := 5) C hT dX5_take_5 ?_
  refine kX5_66x (pc := 6) C (c_X5_needIndex l D hfl _ _ _) dX5_take_6 (Nat.le_of_ble_eq_true rfl) (by decide) (fun E h => Or.inl h) (fun _ => rfl) ?_
  rintro _ ⟨h1, rfl⟩
  obtain ⟨j0, hj0, rfl⟩ := ix_of (N := 5) (by decide) h1
  refine r_aload0 (pc := 9) C dX5_take_9 ?_
  refine gX5_32 (pc := 10) C hT dX5_take_10 ?_
  refine r_iload1 (pc := 13) C dX5_take_13 ?_
  refine a7 (pc := 14) C hT rfl (by omega) dX5_take_14 ?_
  refine r_istore3 (pc := 15) C dX5_take_15 ?_
  refine r_iload3 (pc := 16) C dX5_take_16 ?_
  refine r_iconst (pc := 17) C (v := (-1)) dX5_take_17 (by decide) ?_
  refine r_icmp_ne (pc := 18) C (tgt := 31) dX5_take_18 (by decide) (fun c_18 => ?_) (fun c_18 => ?_)
  · have hnn : ¬ σ 7 j0 = -1 := by assumption
    have loop : ∀ (z k : Nat) (x7 : Option Value), k ≤ 40 → 40 < k + z → V D A 8 (T, ad, cO D ad (tkC σ (σ 7 j0) (nI j0) t k)) p l e (RM 9 40 400) s m args below meth c 1 6 (vx_MQ below (va_Qi (fun r S1 => ∃ j, j < 5 ∧ nI j0 = nI j ∧ ¬ σ 7 j = -1 ∧ r = chg (σ 6 j) (iF (t = 0) (-10) 5) ∧ S1 = (T, ad, cO D ad (up (up (tkC σ (σ 7 j) (nI j) t 40) 7 j (-1)) 6 j (chg (σ 6 j) (iF (t = 0) (-10) 5))))) (PoB D A) A) (XCs D (T, ad, cO D ad σ) A (fun E => (E = sIOB ∧ ¬ (0 ≤ nI j0 ∧ nI j0 < nI 5)) ∨ (E = sISE ∧ (0 ≤ nI j0 ∧ nI j0 < nI 5) ∧ ∃ j, j < 5 ∧ nI j0 = nI j ∧ σ 7 j = -1))) args s 40 400 A) 45 [some (.ref (ad 0)), some (.int (nI j0)), some (.int t), some (.int (σ 7 j0)), some (.ref (ad 2)), some (.int (nI 40)), some (.int (nI k)), x7] [] := by
      intro z
      induction z with
      | zero => intro k x7 h1 h2; omega
      | succ z ih =>
        intro k x7 h1 h2
        have hk : nI k + 1 = nI (k + 1) := nI_1 k
        refine r_iload6 (pc := 45) C dX5_take_45 ?_
        refine r_iload5 (pc := 47) C dX5_take_47 ?_
        refine r_icmp_geN (pc := 49) C (tgt := 94) dX5_take_49 (by decide) (by omega) (by omega) (fun c_49 => ?_) (fun c_49 => ?_)
        · have hk40 : k = 40 := by omega
          subst hk40
          obtain ⟨τ, hτ⟩ : ∃ τ : Mm, tkC σ (σ 7 j0) (nI j0) t 40 = τ := ⟨_, rfl⟩
          have hrow : (up τ 7 j0 (-1)) 6 j0 = σ 6 j0 := by rw [up_ne (by decide), ← hτ, tkC_r σ _ _ _ (by decide) (by decide) (by decide)]
          have hpo : ∀ r S1, (j0 < 5 ∧ r = chg (σ 6 j0) (iF (t = 0) (-10) 5) ∧ S1 = (T, ad, cO D ad (up (up τ 7 j0 (-1)) 6 j0 (chg (σ 6 j0) (iF (t = 0) (-10) 5))))) → (fun r S1 => ∃ j, j < 5 ∧ nI j0 = nI j ∧ ¬ σ 7 j = -1 ∧ r = chg (σ 6 j) (iF (t = 0) (-10) 5) ∧ S1 = (T, ad, cO D ad (up (up (tkC σ (σ 7 j) (nI j) t 40) 7 j (-1)) 6 j (chg (σ 6 j) (iF (t = 0) (-10) 5))))) r S1 := fun r S1 h => ⟨j0, h.1, rfl, hnn, h.2.1, by rw [hτ]; exact h.2.2⟩
          rw [show (T, ad, cO D ad (tkC σ (σ 7 j0) (nI j0) t 40)) = (T, ad, cO D ad τ) by rw [hτ]]
          refine r_aload0 (pc := 94) C dX5_take_94 ?_
          refine gX5_32 (pc := 95) C hT dX5_take_95 ?_
          refine r_iload1 (pc := 98) C dX5_take_98 ?_
          refine r_iconst (pc := 99) C (v := (-1)) dX5_take_99 (by decide) ?_
          refine b7 (pc := 100) C hT rfl (by omega) dX5_take_100 ?_
          refine r_aload0 (pc := 101) C dX5_take_101 ?_
          refine r_iload1 (pc := 102) C dX5_take_102 ?_
          refine r_iload2 (pc := 103) C dX5_take_103 ?_
          refine r_if_eq (pc := 104) C (tgt := 111) dX5_take_104 (by decide) (fun c_104 => ?_) (fun c_104 => ?_)
          · refine r_bipush (pc := 111) C (v := (-10)) dX5_take_111 (by decide) ?_
            refine kX5_201 (pc := 113) C (c_X5_changeConduct l D _ _ _ hT hj0 _) (hT.f (by decide)) rfl dX5_take_113 (Nat.le_of_ble_eq_true rfl) (by decide) ?_
            rintro _ _ ⟨hr1, hs1⟩
            rw [hr1, hs1]
            exact r_iret C rfl dX5_take_116 (hpo _ _ ⟨hj0, by rw [hrow]; exact congrArg (chg (σ 6 j0)) (by first | exact (iF_t (by assumption)).symm | exact (iF_f (by assumption)).symm), by rw [hrow]; exact congrArg (fun z => (T, ad, cO D ad (up (up τ 7 j0 (-1)) 6 j0 (chg (σ 6 j0) z)))) (by first | exact (iF_t (by assumption)).symm | exact (iF_f (by assumption)).symm)⟩) (by decide) (by decide)
          · refine r_iconst (pc := 107) C (v := 5) dX5_take_107 (by decide) ?_
            refine r_goto (pc := 108) C (tgt := 113) dX5_take_108 (by decide) ?_
            refine kX5_201 (pc := 113) C (c_X5_changeConduct l D _ _ _ hT hj0 _) (hT.f (by decide)) rfl dX5_take_113 (Nat.le_of_ble_eq_true rfl) (by decide) ?_
            rintro _ _ ⟨hr1, hs1⟩
            rw [hr1, hs1]
            exact r_iret C rfl dX5_take_116 (hpo _ _ ⟨hj0, by rw [hrow]; exact congrArg (chg (σ 6 j0)) (by first | exact (iF_t (by assumption)).symm | exact (iF_f (by assumption)).symm), by rw [hrow]; exact congrArg (fun z => (T, ad, cO D ad (up (up τ 7 j0 (-1)) 6 j0 (chg (σ 6 j0) z)))) (by first | exact (iF_t (by assumption)).symm | exact (iF_f (by assumption)).symm)⟩) (by decide) (by decide)
        · refine r_aload4 (pc := 52) C dX5_take_52 ?_
          refine r_iload6 (pc := 54) C dX5_take_54 ?_
          refine a2 (pc := 56) C hT rfl (by omega) dX5_take_56 (fun c_56 => ?_) (fun c_56 => ?_)
          · refine r_astoren7 (pc := 57) C dX5_take_57 ?_
            refine r_aloadn7 (pc := 59) C dX5_take_59 ?_
            refine r_ifnull_n (pc := 61) C (tgt := 88) dX5_take_61 (by decide) ?_
            refine r_iinc6 (pc := 88) C dX5_take_88 hk ?_
            refine r_goto (pc := 91) C (tgt := 45) dX5_take_91 (by decide) ?_
            first
            | (have e1 : tkC σ (σ 7 j0) (nI j0) t (k + 1) = up (up (tkC σ (σ 7 j0) (nI j0) t k) 28 k 0) 30 k (-1) := (iF_t (by grind)).trans (iF_t (by assumption))
               have h3 := ih (k + 1); rw [e1] at h3; exact h3 _ (by omega) (by omega))
            | (have e1 : tkC σ (σ 7 j0) (nI j0) t (k + 1) = up (up (up (up (tkC σ (σ 7 j0) (nI j0) t k) 28 k 0) 30 k (-1)) 28 k 2) 29 k (nI j0) := (iF_t (by grind)).trans (iF_f (by assumption))
               have h3 := ih (k + 1); rw [e1] at h3; exact h3 _ (by omega) (by omega))
            | (have e1 : tkC σ (σ 7 j0) (nI j0) t (k + 1) = tkC σ (σ 7 j0) (nI j0) t k := iF_f (by grind)
               have h3 := ih (k + 1); rw [e1] at h3; exact h3 _ (by omega) (by omega))
          · refine r_astore7 (pc := 57) C dX5_take_57 ?_
            refine r_aload7 (pc := 59) C dX5_take_59 ?_
            refine r_ifnull_r (pc := 61) C dX5_take_61 ?_
            have hi : k < nr := (hI.1 k (by omega)).mp (by rw [tkC_r σ _ _ _ (r := 2) (by decide) (by decide) (by decide) k] at c_56; exact c_56)
            refine r_aload7 (pc := 64) C dX5_take_64 ?_
            refine gX5_163 (pc := 66) C hT (by assumption) dX5_take_66 ?_
            refine r_iload3 (pc := 69) C dX5_take_69 ?_
            refine r_icmp_ne (pc := 70) C (tgt := 88) dX5_take_70 (by decide) (fun c_70 => ?_) (fun c_70 => ?_)
            · refine r_iinc6 (pc := 88) C dX5_take_88 hk ?_
              refine r_goto (pc := 91) C (tgt := 45) dX5_take_91 (by decide) ?_
              first
              | (have e1 : tkC σ (σ 7 j0) (nI j0) t (k + 1) = up (up (tkC σ (σ 7 j0) (nI j0) t k) 28 k 0) 30 k (-1) := (iF_t (by grind)).trans (iF_t (by assumption))
                 have h3 := ih (k + 1); rw [e1] at h3; exact h3 _ (by omega) (by omega))
              | (have e1 : tkC σ (σ 7 j0) (nI j0) t (k + 1) = up (up (up (up (tkC σ (σ 7 j0) (nI j0) t k) 28 k 0) 30 k (-1)) 28 k 2) 29 k (nI j0) := (iF_t (by grind)).trans (iF_f (by assumption))
                 have h3 := ih (k + 1); rw [e1] at h3; exact h3 _ (by omega) (by omega))
              | (have e1 : tkC σ (σ 7 j0) (nI j0) t (k + 1) = tkC σ (σ 7 j0) (nI j0) t k := iF_f (by grind)
                 have h3 := ih (k + 1); rw [e1] at h3; exact h3 _ (by omega) (by omega))
            · refine r_aload7 (pc := 73) C dX5_take_73 ?_
              refine kX5_194 (pc := 75) C (c_X3_leaveBox l D _ _ _ hT (by assumption)) (hT.r (by assumption)) (cO_ro hT (by assumption)) dX5_take_75 (Nat.le_of_ble_eq_true rfl) (by decide) ?_
              rintro _ rfl
              refine r_iload2 (pc := 78) C dX5_take_78 ?_
              refine r_if_eq (pc := 79) C (tgt := 88) dX5_take_79 (by decide) (fun c_79 => ?_) (fun c_79 => ?_)
              · refine r_iinc6 (pc := 88) C dX5_take_88 hk ?_
                refine r_goto (pc := 91) C (tgt := 45) dX5_take_91 (by decide) ?_
                first
                | (have e1 : tkC σ (σ 7 j0) (nI j0) t (k + 1) = up (up (tkC σ (σ 7 j0) (nI j0) t k) 28 k 0) 30 k (-1) := (iF_t (by grind)).trans (iF_t (by assumption))
                   have h3 := ih (k + 1); rw [e1] at h3; exact h3 _ (by omega) (by omega))
                | (have e1 : tkC σ (σ 7 j0) (nI j0) t (k + 1) = up (up (up (up (tkC σ (σ 7 j0) (nI j0) t k) 28 k 0) 30 k (-1)) 28 k 2) 29 k (nI j0) := (iF_t (by grind)).trans (iF_f (by assumption))
                   have h3 := ih (k + 1); rw [e1] at h3; exact h3 _ (by omega) (by omega))
                | (have e1 : tkC σ (σ 7 j0) (nI j0) t (k + 1) = tkC σ (σ 7 j0) (nI j0) t k := iF_f (by grind)
                   have h3 := ih (k + 1); rw [e1] at h3; exact h3 _ (by omega) (by omega))
              · refine r_aload7 (pc := 82) C dX5_take_82 ?_
                refine r_iload1 (pc := 84) C dX5_take_84 ?_
                refine kX5_197 (pc := 85) C (c_X3_sellTo l D _ _ _ hT (by assumption) _) (hT.r (by assumption)) (cO_ro hT (by assumption)) dX5_take_85 (Nat.le_of_ble_eq_true rfl) (by decide) ?_
                rintro _ rfl
                refine r_iinc6 (pc := 88) C dX5_take_88 hk ?_
                refine r_goto (pc := 91) C (tgt := 45) dX5_take_91 (by decide) ?_
                first
                | (have e1 : tkC σ (σ 7 j0) (nI j0) t (k + 1) = up (up (tkC σ (σ 7 j0) (nI j0) t k) 28 k 0) 30 k (-1) := (iF_t (by grind)).trans (iF_t (by assumption))
                   have h3 := ih (k + 1); rw [e1] at h3; exact h3 _ (by omega) (by omega))
                | (have e1 : tkC σ (σ 7 j0) (nI j0) t (k + 1) = up (up (up (up (tkC σ (σ 7 j0) (nI j0) t k) 28 k 0) 30 k (-1)) 28 k 2) 29 k (nI j0) := (iF_t (by grind)).trans (iF_f (by assumption))
                   have h3 := ih (k + 1); rw [e1] at h3; exact h3 _ (by omega) (by omega))
                | (have e1 : tkC σ (σ 7 j0) (nI j0) t (k + 1) = tkC σ (σ 7 j0) (nI j0) t k := iF_f (by grind)
                   have h3 := ih (k + 1); rw [e1] at h3; exact h3 _ (by omega) (by omega))
    refine r_aload0 (pc := 31) C dX5_take_31 ?_
    refine gX5_15 (pc := 32) C hT dX5_take_32 ?_
    refine r_astore4 (pc := 35) C dX5_take_35 ?_
    refine r_aload4 (pc := 37) C dX5_take_37 ?_
    refine l2 (pc := 39) C hT dX5_take_39 ?_
    refine r_istore5 (pc := 40) C dX5_take_40 ?_
    refine r_iconst (pc := 42) C (v := 0) dX5_take_42 (by decide) ?_
    refine r_istore6 (pc := 43) C dX5_take_43 ?_
    exact loop 41 0 _ (by omega) (by omega)
  · exact r_thr_ISE C hfl (List.mem_of_getElem? (i := 13) rfl) dX5_take_21 dX5_take_24 dX5_take_25 dX5_take_27 dX5_take_30 ⟨by decide, Nat.le_of_ble_eq_true rfl, by decide, by decide, by decide, by decide⟩ (Or.inr ⟨rfl, h1, j0, hj0, rfl, by assumption⟩) rfl

set_option maxRecDepth 100000 in
set_option maxHeartbeats 4000000 in
theorem c_X5_tender (l : Launch) (D : Gt) (hfl : l.stackTraces = false) (T : List Nat) (ad : Nat → Nat) (σ : Mm) {nr ng np nb : Nat} (hT : TG nr ng T) (hI : IC nr ng np nb σ) (x y : Int32) : KV D l yX5_tender (uws yX5_tender cX5_tender 4 none) (RM 9 40 400) [.ref (ad 0), .int x, .int y] (T, ad, cO D ad σ) (fun S1 => ∃ i, i < nr ∧ x = nI i ∧ (0 ≤ y ∧ y ≤ 999999) ∧ σ 28 i = 0 ∧ σ 9 0 = 0 ∧ S1 = (T, ad, cO D ad (upR (up (up σ 9 0 (nI (i + 1))) 9 1 y) 10 (fillF (σ 10) (-1) 5)))) (fun E => (E = sIOB ∧ ¬ (0 ≤ x ∧ x < nI nr)) ∨ (E = sIAE ∧ (0 ≤ x ∧ x < nI nr) ∧ ¬ (0 ≤ y ∧ y ≤ 999999)) ∨ (E = sISE ∧ (0 ≤ x ∧ x < nI nr) ∧ (0 ≤ y ∧ y ≤ 999999) ∧ ∃ i, i < nr ∧ x = nI i ∧ ¬ (σ 28 i = 0 ∧ σ 9 0 = 0))) 40 400 := by
  refine KV_of (own := RX5) (L0 := [some (.ref (ad 0)), some (.int x), some (.int y), none]) (by decide +kernel) rfl (catc rfl (catc rfl (catc rfl cat0))) (Nat.le_of_ble_eq_true rfl) rfl ?_
  intro p e s m args below meth c A hnm C
  refine r_aload0 (pc := 0) C dX5_tender_0 ?_
  refine r_iload1 (pc := 1) C dX5_tender_1 ?_
  refine kX5_105x (pc := 2) C (c_X5_knownStone l D hfl _ _ _ hT hI.1 _) (hT.f (by decide)) rfl dX5_tender_2 (Nat.le_of_ble_eq_true rfl) (by decide) (fun E h => Or.inl h) (fun _ => rfl) ?_
  rintro _ _ ⟨i, hi, rfl, rfl, rfl⟩
  have h_i : 0 ≤ nI i ∧ nI i < nI nr := ⟨nI_pos' (by have := hT.1; omega), nI_lt (by omega) (by have := hT.1; omega)⟩
  refine r_astore3 (pc := 5) C dX5_tender_5 ?_
  refine r_iload2 (pc := 6) C dX5_tender_6 ?_
  refine r_iconst (pc := 7) C (v := 0) dX5_tender_7 (by decide) ?_
  refine cX5_204 (pc := 8) C dX5_tender_8 ?_
  refine kX5_85x (pc := 10) C (c_X5_needRange l D hfl _ _ _ _) dX5_tender_10 (Nat.le_of_ble_eq_true rfl) (by decide) (fun E h => Or.inr (Or.inl ⟨h.1, h_i, h.2⟩)) (fun _ => rfl) ?_
  rintro _ ⟨h2, rfl⟩
  refine r_aload3 (pc := 13) C dX5_tender_13 ?_
  refine gX5_109 (pc := 14) C hT (by assumption) dX5_tender_14 ?_
  refine r_if_ne (pc := 17) C (tgt := 30) dX5_tender_17 (by decide) (fun c_17 => ?_) (fun c_17 => ?_)
  · exact r_thr_ISE C hfl (List.mem_of_getElem? (i := 14) rfl) dX5_tender_30 dX5_tender_33 dX5_tender_34 dX5_tender_36 dX5_tender_39 ⟨by decide, Nat.le_of_ble_eq_true rfl, by decide, by decide, by decide, by decide⟩ (Or.inr (Or.inr ⟨rfl, h_i, h2, i, hi, rfl, by grind⟩)) rfl
  · refine r_aload0 (pc := 20) C dX5_tender_20 ?_
    refine gX5_41 (pc := 21) C hT dX5_tender_21 ?_
    refine kX5_205 (pc := 24) C (c_X4_isOn l D _ _ _ hT) (hT.f (by decide)) rfl dX5_tender_24 (Nat.le_of_ble_eq_true rfl) (by decide) ?_
    rintro _ _ ⟨rfl, rfl⟩
    refine r_if_eq_b (pc := 27) C (tgt := 40) dX5_tender_27 (by decide) (fun c_27 => ?_) (fun c_27 => ?_)
    · refine r_aload0 (pc := 40) C dX5_tender_40 ?_
      refine gX5_41 (pc := 41) C hT dX5_tender_41 ?_
      refine r_aload3 (pc := 44) C dX5_tender_44 ?_
      refine r_iload2 (pc := 45) C dX5_tender_45 ?_
      refine kX5_210 (pc := 46) C (c_X4_begin l D _ _ _ hT hi _) (hT.f (by decide)) rfl dX5_tender_46 (Nat.le_of_ble_eq_true rfl) (by decide) ?_
      rintro _ rfl
      exact r_vret C rfl dX5_tender_49 (⟨i, hi, rfl, h2, by assumption, Classical.not_not.mp (by assumption), rfl⟩) (by decide) (by decide)
    · exact r_thr_ISE C hfl (List.mem_of_getElem? (i := 14) rfl) dX5_tender_30 dX5_tender_33 dX5_tender_34 dX5_tender_36 dX5_tender_39 ⟨by decide, Nat.le_of_ble_eq_true rfl, by decide, by decide, by decide, by decide⟩ (Or.inr (Or.inr ⟨rfl, h_i, h2, i, hi, rfl, by grind⟩)) rfl

set_option maxRecDepth 100000 in
set_option maxHeartbeats 4000000 in
theorem c_X5_bid (l : Launch) (D : Gt) (hfl : l.stackTraces = false) (T : List Nat) (ad : Nat → Nat) (σ : Mm) {nr ng np nb : Nat} (hT : TG nr ng T) (hI : IC nr ng np nb σ) (x y : Int32) : KI D l yX5_bid (uws yX5_bid cX5_bid 4 (some .int)) (RM 9 40 400) [.ref (ad 0), .int x, .int y] (T, ad, cO D ad σ) (fun r S1 => ∃ j, j < 5 ∧ x = nI j ∧ (1 ≤ y ∧ y ≤ 999999) ∧ ¬ σ 9 0 = 0 ∧ r = σ 10 j ∧ S1 = (T, ad, cO D ad (up σ 10 j y))) (fun E => (E = sIOB ∧ ¬ (0 ≤ x ∧ x < 5)) ∨ (E = sIAE ∧ (0 ≤ x ∧ x < 5) ∧ ¬ (1 ≤ y ∧ y ≤ 999999)) ∨ (E = sISE ∧ (0 ≤ x ∧ x < 5) ∧ (1 ≤ y ∧ y ≤ 999999) ∧ σ 9 0 = 0)) 40 400 := by
  refine KI_of (own := RX5) (L0 := [some (.ref (ad 0)), some (.int x), some (.int y), none]) (by decide +kernel) rfl (catc rfl (catc rfl (catc rfl cat0))) (Nat.le_of_ble_eq_true rfl) rfl ?_
  intro p e s m args below meth c A hnm C
  refine r_iload1 (pc := 0) C dX5_bid_0 ?_
  refine r_iconst (pc := 1) C (v := 5) dX5_bid_1 (by decide) ?_
  refine kX5_66x (pc := 2) C (c_X5_needIndex l D hfl _ _ _) dX5_bid_2 (Nat.le_of_ble_eq_true rfl) (by decide) (fun E h => Or.inl h) (fun _ => rfl) ?_
  rintro _ ⟨h1, rfl⟩
  obtain ⟨j, hj, rfl⟩ := ix_of (N := 5) (by decide) h1
  refine r_iload2 (pc := 5) C dX5_bid_5 ?_
  refine r_iconst (pc := 6) C (v := 1) dX5_bid_6 (by decide) ?_
  refine cX5_204 (pc := 7) C dX5_bid_7 ?_
  refine kX5_85x (pc := 9) C (c_X5_needRange l D hfl _ _ _ _) dX5_bid_9 (Nat.le_of_ble_eq_true rfl) (by decide) (fun E h => Or.inr (Or.inl ⟨h.1, h1, h.2⟩)) (fun _ => rfl) ?_
  rintro _ ⟨h2, rfl⟩
  refine r_aload0 (pc := 12) C dX5_bid_12 ?_
  refine gX5_41 (pc := 13) C hT dX5_bid_13 ?_
  refine kX5_205 (pc := 16) C (c_X4_isOn l D _ _ _ hT) (hT.f (by decide)) rfl dX5_bid_16 (Nat.le_of_ble_eq_true rfl) (by decide) ?_
  rintro _ _ ⟨rfl, rfl⟩
  refine r_if_ne_b (pc := 19) C (tgt := 32) dX5_bid_19 (by decide) (fun c_19 => ?_) (fun c_19 => ?_)
  · refine r_aload0 (pc := 32) C dX5_bid_32 ?_
    refine gX5_41 (pc := 33) C hT dX5_bid_33 ?_
    refine r_iload1 (pc := 36) C dX5_bid_36 ?_
    refine kX5_216 (pc := 37) C (c_X4_bidOf l D _ _ _ hT hj) (hT.f (by decide)) rfl dX5_bid_37 (Nat.le_of_ble_eq_true rfl) (by decide) ?_
    rintro _ _ ⟨rfl, rfl⟩
    refine r_istore3 (pc := 40) C dX5_bid_40 ?_
    refine r_aload0 (pc := 41) C dX5_bid_41 ?_
    refine gX5_41 (pc := 42) C hT dX5_bid_42 ?_
    refine r_iload1 (pc := 45) C dX5_bid_45 ?_
    refine r_iload2 (pc := 46) C dX5_bid_46 ?_
    refine kX5_219 (pc := 47) C (c_X4_setBid l D _ _ _ hT hj _) (hT.f (by decide)) rfl dX5_bid_47 (Nat.le_of_ble_eq_true rfl) (by decide) ?_
    rintro _ rfl
    refine r_iload3 (pc := 50) C dX5_bid_50 ?_
    exact r_iret C rfl dX5_bid_51 (⟨j, hj, rfl, h2, by assumption, rfl, rfl⟩) (by decide) (by decide)
  · exact r_thr_ISE C hfl (List.mem_of_getElem? (i := 5) rfl) dX5_bid_22 dX5_bid_25 dX5_bid_26 dX5_bid_28 dX5_bid_31 ⟨by decide, Nat.le_of_ble_eq_true rfl, by decide, by decide, by decide, by decide⟩ (Or.inr (Or.inr ⟨rfl, h1, h2, Classical.not_not.mp (by assumption)⟩)) rfl

set_option maxRecDepth 100000 in
set_option maxHeartbeats 4000000 in
theorem c_X5_close (l : Launch) (D : Gt) (hfl : l.stackTraces = false) (T : List Nat) (ad : Nat → Nat) (σ : Mm) {nr ng np nb : Nat} (hT : TG nr ng T) (hI : IC nr ng np nb σ) : KI D l yX5_close (uws yX5_close cX5_close 3 (some .int)) (RM 9 40 400) [.ref (ad 0)] (T, ad, cO D ad σ) (fun r S1 => ∃ i, i < nr ∧ σ 9 0 = nI (i + 1) ∧ r = twC σ 5 ∧ S1 = (T, ad, cO D ad (clsC σ i))) (fun E => E = sISE ∧ σ 9 0 = 0) 40 400 := by
  refine KI_of (own := RX5) (L0 := [some (.ref (ad 0)), none, none]) (by decide +kernel) rfl (catc rfl cat0) (Nat.le_of_ble_eq_true rfl) rfl ?_
  intro p e s m args below meth c A hnm C
  refine r_aload0 (pc := 0) C dX5_close_0 ?_
  refine gX5_41 (pc := 1) C hT dX5_close_1 ?_
  refine gX5_222 (pc := 4) C hT dX5_close_4 ?_
  rcases hI.2.2.2.2.2.2.1 with h0 | ⟨i, hi, h0⟩
  · have e9 : tdr ad (σ 9 0) = none := by rw [h0, tdr_0]
    rw [e9]
    refine r_astoren1 (pc := 7) C dX5_close_7 ?_
    refine r_aloadn1 (pc := 8) C dX5_close_8 ?_
    refine r_ifnonnull_n (pc := 9) C dX5_close_9 ?_
    exact r_thr_ISE C hfl (List.mem_of_getElem? (i := 5) rfl) dX5_close_12 dX5_close_15 dX5_close_16 dX5_close_18 dX5_close_21 ⟨by decide, Nat.le_of_ble_eq_true rfl, by decide, by decide, by decide, by decide⟩ (⟨rfl, h0⟩) rfl
  · have e9 : tdr ad (σ 9 0) = some (ad (100 + i)) := by rw [h0, tdr_some (by have := hT.1; omega)]
    rw [e9]
    refine r_astore1 (pc := 7) C dX5_close_7 ?_
    refine r_aload1 (pc := 8) C dX5_close_8 ?_
    refine r_ifnonnull_r (pc := 9) C (tgt := 22) dX5_close_9 (by decide) ?_
    refine r_aload0 (pc := 22) C dX5_close_22 ?_
    refine kX5_226 (pc := 23) C (c_X5_tenderWinner l D _ _ _ hT) (hT.f (by decide)) rfl dX5_close_23 (Nat.le_of_ble_eq_true rfl) (by decide) ?_
    rintro _ _ ⟨rfl, rfl⟩
    refine r_istore2 (pc := 26) C dX5_close_26 ?_
    refine r_iload2 (pc := 27) C dX5_close_27 ?_
    refine r_iconst (pc := 28) C (v := (-1)) dX5_close_28 (by decide) ?_
    refine r_icmp_eq (pc := 29) C (tgt := 49) dX5_close_29 (by decide) (fun c_29 => ?_) (fun c_29 => ?_)
    · refine r_aload0 (pc := 49) C dX5_close_49 ?_
      refine gX5_41 (pc := 50) C hT dX5_close_50 ?_
      refine kX5_232 (pc := 53) C (c_X4_end l D _ _ _ hT) (hT.f (by decide)) rfl dX5_close_53 (Nat.le_of_ble_eq_true rfl) (by decide) ?_
      rintro _ rfl
      refine r_iload2 (pc := 56) C dX5_close_56 ?_
      exact r_iret C rfl dX5_close_57 (⟨i, hi, h0, rfl, by unfold clsC; first | rw [iF_t (by assumption)] | rw [iF_f (by assumption)]⟩) (by decide) (by decide)
    · refine r_aload1 (pc := 32) C dX5_close_32 ?_
      refine r_aload0 (pc := 33) C dX5_close_33 ?_
      refine gX5_41 (pc := 34) C hT dX5_close_34 ?_
      refine r_iload2 (pc := 37) C dX5_close_37 ?_
      refine kX5_229 (pc := 38) C (c_X4_paymentOf l D _ _ _ hT _) (hT.f (by decide)) rfl dX5_close_38 (Nat.le_of_ble_eq_true rfl) (by decide) ?_
      rintro _ _ ⟨rfl, rfl⟩
      refine pX5_169 (pc := 41) C hT (by assumption) dX5_close_41 ?_
      refine r_aload1 (pc := 44) C dX5_close_44 ?_
      refine r_iload2 (pc := 45) C dX5_close_45 ?_
      refine kX5_197 (pc := 46) C (c_X3_sellTo l D _ _ _ hT (by assumption) _) (hT.r (by assumption)) (cO_ro hT (by assumption)) dX5_close_46 (Nat.le_of_ble_eq_true rfl) (by decide) ?_
      rintro _ rfl
      refine r_aload0 (pc := 49) C dX5_close_49 ?_
      refine gX5_41 (pc := 50) C hT dX5_close_50 ?_
      refine kX5_232 (pc := 53) C (c_X4_end l D _ _ _ hT) (hT.f (by decide)) rfl dX5_close_53 (Nat.le_of_ble_eq_true rfl) (by decide) ?_
      rintro _ rfl
      refine r_iload2 (pc := 56) C dX5_close_56 ?_
      exact r_iret C rfl dX5_close_57 (⟨i, hi, h0, rfl, by unfold clsC; first | rw [iF_t (by assumption)] | rw [iF_f (by assumption)]⟩) (by decide) (by decide)

set_option maxRecDepth 100000 in
set_option maxHeartbeats 4000000 in
theorem c_X5_plan (l : Launch) (D : Gt) (hfl : l.stackTraces = false) (T : List Nat) (ad : Nat → Nat) (σ : Mm) {nr ng np nb : Nat} (hT : TG nr ng T) (hI : IC nr ng np nb σ) (x : Int32) : KI D l yX5_plan (uws yX5_plan cX5_plan 6 (some .int)) (RM 9 2 12) [.ref (ad 0), .int x] (T, ad, cO D ad σ) (fun r S1 => ∃ i, i < nr ∧ x = nI i ∧ r = nI (plS (σ 26 i) 12) ∧ S1 = (T, ad, cO D ad σ)) (fun E => E = sIOB ∧ ¬ (0 ≤ x ∧ x < nI nr)) 2 12 := by
  refine KI_of (own := RX5) (L0 := [some (.ref (ad 0)), some (.int x), none, none, none, none]) (by decide +kernel) rfl (catc rfl (catc rfl cat0)) (Nat.le_of_ble_eq_true rfl) rfl ?_
  intro p e s m args below meth c A hnm C
  refine r_aload0 (pc := 0) C dX5_plan_0 ?_
  refine r_iload1 (pc := 1) C dX5_plan_1 ?_
  refine kX5_105x (pc := 2) C (c_X5_knownStone l D hfl _ _ _ hT hI.1 _) (hT.f (by decide)) rfl dX5_plan_2 (Nat.le_of_ble_eq_true rfl) (by decide) (fun E h => h) (fun _ => rfl) ?_
  rintro _ _ ⟨i, hi, rfl, rfl, rfl⟩
  have h_i : 0 ≤ nI i ∧ nI i < nI nr := ⟨nI_pos' (by have := hT.1; omega), nI_lt (by omega) (by have := hT.1; omega)⟩
  have loop : ∀ (z k : Nat) (x5 : Option Value), k ≤ 12 → 12 < k + z → V D A 6 (T, ad, cO D ad σ) p l e (RM 9 2 12) s m args below meth c 1 6 (vx_MQ below (va_Qi (fun r S1 => ∃ i0, i0 < nr ∧ nI i = nI i0 ∧ r = nI (plS (σ 26 i0) 12) ∧ S1 = (T, ad, cO D ad σ)) (PoB D A) A) (XCs D (T, ad, cO D ad σ) A (fun E => E = sIOB ∧ ¬ (0 ≤ nI i ∧ nI i < nI nr))) args s 2 12 A) 14 [some (.ref (ad 0)), some (.int (nI i)), some (.int (σ 26 i)), some (.int (nI (plS (σ 26 i) k))), some (.int (nI k)), x5] [] := by
    intro z
    induction z with
    | zero => intro k x5 h1 h2; omega
    | succ z ih =>
      intro k x5 h1 h2
      have hk : nI k + 1 = nI (k + 1) := nI_1 k
      refine r_iload4 (pc := 14) C dX5_plan_14 ?_
      refine r_bipush (pc := 16) C (v := nI 12) dX5_plan_16 (by decide) ?_
      refine r_icmp_geN (pc := 18) C (tgt := 43) dX5_plan_18 (by decide) (by omega) (by omega) (fun c_18 => ?_) (fun c_18 => ?_)
      · refine r_iload3 (pc := 43) C dX5_plan_43 ?_
        exact r_iret C rfl dX5_plan_44 (⟨i, hi, rfl, by rw [show k = 12 by omega], rfl⟩) (by decide) (by decide)
      · refine r_iload2 (pc := 21) C dX5_plan_21 ?_
        refine r_iload4 (pc := 22) C dX5_plan_22 ?_
        refine kX5_238 (pc := 24) C (c_X5_plannedAt l D _ _ (by omega)) dX5_plan_24 (Nat.le_of_ble_eq_true rfl) (by decide) ?_
        rintro _ _ ⟨rfl, rfl⟩
        refine r_istore5 (pc := 27) C dX5_plan_27 ?_
        refine r_iload3 (pc := 29) C dX5_plan_29 ?_
        refine r_iload5 (pc := 30) C dX5_plan_30 ?_
        refine r_iload5 (pc := 32) C dX5_plan_32 ?_
        refine r_imul (pc := 34) C dX5_plan_34 ?_
        refine r_iadd (pc := 35) C dX5_plan_35 ?_
        rw [pk_mul, nI_add]
        refine r_istore3 (pc := 36) C dX5_plan_36 ?_
        refine r_iinc4 (pc := 37) C dX5_plan_37 hk ?_
        refine r_goto (pc := 40) C (tgt := 14) dX5_plan_40 (by decide) ?_
        exact ih (k + 1) _ (by omega) (by omega)
  refine gX5_235 (pc := 5) C hT (by assumption) dX5_plan_5 ?_
  refine r_istore2 (pc := 8) C dX5_plan_8 ?_
  refine r_iconst (pc := 9) C (v := 0) dX5_plan_9 (by decide) ?_
  refine r_istore3 (pc := 10) C dX5_plan_10 ?_
  refine r_iconst (pc := 11) C (v := 0) dX5_plan_11 (by decide) ?_
  refine r_istore4 (pc := 12) C dX5_plan_12 ?_
  exact loop 13 0 _ (by omega) (by omega)

set_option maxRecDepth 100000 in
set_option maxHeartbeats 4000000 in
theorem c_X5_planAnew (l : Launch) (D : Gt) (hfl : l.stackTraces = false) (T : List Nat) (ad : Nat → Nat) (σ : Mm) {nr ng np nb : Nat} (hT : TG nr ng T) (hI : IC nr ng np nb σ) (x : Int32) : KI D l yX5_planAnew (uws yX5_planAnew cX5_planAnew 5 (some .int)) (RM 9 2 12) [.ref (ad 0), .int x] (T, ad, cO D ad σ) (fun r S1 => ∃ i, i < nr ∧ x = nI i ∧ r = paS (σ 26 i) 4096 ∧ S1 = (T, ad, cO D ad σ)) (fun E => E = sIOB ∧ ¬ (0 ≤ x ∧ x < nI nr)) 2 12 := by
  refine KI_of (own := RX5) (L0 := [some (.ref (ad 0)), some (.int x), none, none, none]) (by decide +kernel) rfl (catc rfl (catc rfl cat0)) (Nat.le_of_ble_eq_true rfl) rfl ?_
  intro p e s m args below meth c A hnm C
  obtain ⟨FP, hFP⟩ : ∃ F : Nat → Int32, ∀ i, paS (σ 26 i) 4096 = F i := ⟨_, fun _ => rfl⟩
  simp only [hFP]
  refine r_aload0 (pc := 0) C dX5_planAnew_0 ?_
  refine r_iload1 (pc := 1) C dX5_planAnew_1 ?_
  refine kX5_105x (pc := 2) C (c_X5_knownStone l D hfl _ _ _ hT hI.1 _) (hT.f (by decide)) rfl dX5_planAnew_2 (Nat.le_of_ble_eq_true rfl) (by decide) (fun E h => h) (fun _ => rfl) ?_
  rintro _ _ ⟨i, hi, rfl, rfl, rfl⟩
  have h_i : 0 ≤ nI i ∧ nI i < nI nr := ⟨nI_pos' (by have := hT.1; omega), nI_lt (by omega) (by have := hT.1; omega)⟩
  have loop : ∀ (z k : Nat), k ≤ 4096 → 4096 < k + z → V D A 5 (T, ad, cO D ad σ) p l e (RM 9 2 12) s m args below meth c 1 6 (vx_MQ below (va_Qi (fun r S1 => ∃ i0, i0 < nr ∧ nI i = nI i0 ∧ r = FP i0 ∧ S1 = (T, ad, cO D ad σ)) (PoB D A) A) (XCs D (T, ad, cO D ad σ) A (fun E => E = sIOB ∧ ¬ (0 ≤ nI i ∧ nI i < nI nr))) args s 2 12 A) 14 [some (.ref (ad 0)), some (.int (nI i)), some (.int (σ 26 i)), some (.int (paS (σ 26 i) k)), some (.int (nI k))] [] := by
    intro z
    induction z with
    | zero => intro k h1 h2; omega
    | succ z ih =>
      intro k h1 h2
      have hk : nI k + 1 = nI (k + 1) := nI_1 k
      refine r_iload4 (pc := 14) C dX5_planAnew_14 ?_
      refine r_sipush (pc := 16) C (v := nI 4095) dX5_planAnew_16 (by decide) ?_
      refine r_icmp_gtN (pc := 19) C (tgt := 46) dX5_planAnew_19 (by decide) (by omega) (by omega) (fun c_19 => ?_) (fun c_19 => ?_)
      · refine r_iload3 (pc := 46) C dX5_planAnew_46 ?_
        exact r_iret C rfl dX5_planAnew_47 (⟨i, hi, rfl, by rw [← hFP i, show k = 4096 by omega], rfl⟩) (by decide) (by decide)
      · refine r_iload4 (pc := 22) C dX5_planAnew_22 ?_
        refine r_iload2 (pc := 24) C dX5_planAnew_24 ?_
        refine r_iand (pc := 25) C dX5_planAnew_25 ?_
        refine r_iload2 (pc := 26) C dX5_planAnew_26 ?_
        refine r_icmp_ne (pc := 27) C (tgt := 40) dX5_planAnew_27 (by decide) (fun c_27 => ?_) (fun c_27 => ?_)
        · refine r_iinc4 (pc := 40) C dX5_planAnew_40 hk ?_
          refine r_goto (pc := 43) C (tgt := 14) dX5_planAnew_43 (by decide) ?_
          first
          | (have e1 : paS (σ 26 i) (k + 1) = mxI (paS (σ 26 i) k) (nI (wbN (nI k))) := iF_t (by assumption)
             have h3 := ih (k + 1); rw [e1] at h3; exact h3 (by omega) (by omega))
          | (have e1 : paS (σ 26 i) (k + 1) = paS (σ 26 i) k := iF_f (by assumption)
             have h3 := ih (k + 1); rw [e1] at h3; exact h3 (by omega) (by omega))
        · refine r_iload3 (pc := 30) C dX5_planAnew_30 ?_
          refine r_iload4 (pc := 31) C dX5_planAnew_31 ?_
          refine kX5_241 (pc := 33) C (c_X5_worthBetween l D _ _) dX5_planAnew_33 (Nat.le_of_ble_eq_true rfl) (by decide) ?_
          rintro _ _ ⟨rfl, rfl⟩
          refine kX5_244 (pc := 36) C ⟨by decide, Nat.le_of_ble_eq_true rfl, by decide, by decide⟩ dX5_planAnew_36 ?_
          refine r_istore3 (pc := 39) C dX5_planAnew_39 ?_
          refine r_iinc4 (pc := 40) C dX5_planAnew_40 hk ?_
          refine r_goto (pc := 43) C (tgt := 14) dX5_planAnew_43 (by decide) ?_
          first
          | (have e1 : paS (σ 26 i) (k + 1) = mxI (paS (σ 26 i) k) (nI (wbN (nI k))) := iF_t (by assumption)
             have h3 := ih (k + 1); rw [e1] at h3; exact h3 (by omega) (by omega))
          | (have e1 : paS (σ 26 i) (k + 1) = paS (σ 26 i) k := iF_f (by assumption)
             have h3 := ih (k + 1); rw [e1] at h3; exact h3 (by omega) (by omega))
  refine gX5_235 (pc := 5) C hT (by assumption) dX5_planAnew_5 ?_
  refine r_istore2 (pc := 8) C dX5_planAnew_8 ?_
  refine r_iconst (pc := 9) C (v := 0) dX5_planAnew_9 (by decide) ?_
  refine r_istore3 (pc := 10) C dX5_planAnew_10 ?_
  refine r_iconst (pc := 11) C (v := 0) dX5_planAnew_11 (by decide) ?_
  refine r_istore4 (pc := 12) C dX5_planAnew_12 ?_
  exact loop 4097 0 (by omega) (by omega)


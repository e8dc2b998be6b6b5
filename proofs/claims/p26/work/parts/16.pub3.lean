set_option maxRecDepth 100000 in
set_option maxHeartbeats 4000000 in
theorem c_X5_recut (l : Launch) (D : Gt) (hfl : l.stackTraces = false) (T : List Nat) (ad : Nat → Nat) (σ : Mm) {nr ng np nb : Nat} (hT : TG nr ng T) (hI : IC nr ng np nb σ) (x y : Int32) : KI D l yX5_recut (uws yX5_recut cX5_recut 5 (some .int)) (RM 9 40 400) [.ref (ad 0), .int x, .int y] (T, ad, cO D ad σ) (fun r S1 => ∃ i, i < ng ∧ x = nI i ∧ (1 ≤ y ∧ y ≤ σ 47 i - 1) ∧ r = σ 47 i - y ∧ S1 = (T, ad, cO D ad (up (up σ 47 i y) 0 13 (σ 0 13 + (σ 47 i - y))))) (fun E => (E = sIOB ∧ ¬ (0 ≤ x ∧ x < nI ng)) ∨ (E = sIAE ∧ (0 ≤ x ∧ x < nI ng) ∧ ∃ i, i < ng ∧ x = nI i ∧ ¬ (1 ≤ y ∧ y ≤ σ 47 i - 1))) 40 400 := by
  refine KI_of (own := RX5) (L0 := [some (.ref (ad 0)), some (.int x), some (.int y), none, none]) (by decide +kernel) rfl (catc rfl (catc rfl (catc rfl cat0))) (Nat.le_of_ble_eq_true rfl) rfl ?_
  intro p e s m args below meth c A hnm C
  refine r_aload0 (pc := 0) C dX5_recut_0 ?_
  refine r_iload1 (pc := 1) C dX5_recut_1 ?_
  refine kX5_276x (pc := 2) C (c_X5_knownGem l D hfl _ _ _ hT hI.2.1 _) (hT.f (by decide)) rfl dX5_recut_2 (Nat.le_of_ble_eq_true rfl) (by decide) (fun E h => Or.inl h) (fun _ => rfl) ?_
  rintro _ _ ⟨i, hi, rfl, rfl, rfl⟩
  have h_i : 0 ≤ nI i ∧ nI i < nI ng := ⟨nI_pos' (by have := hT.2.1; omega), nI_lt (by omega) (by have := hT.2.1; omega)⟩
  refine r_astore3 (pc := 5) C dX5_recut_5 ?_
  refine r_iload2 (pc := 6) C dX5_recut_6 ?_
  refine r_iconst (pc := 7) C (v := 1) dX5_recut_7 (by decide) ?_
  refine r_aload3 (pc := 8) C dX5_recut_8 ?_
  refine gX5_280 (pc := 9) C hT (by assumption) dX5_recut_9 ?_
  refine r_iconst (pc := 12) C (v := 1) dX5_recut_12 (by decide) ?_
  refine r_isub (pc := 13) C dX5_recut_13 ?_
  refine kX5_85x (pc := 14) C (c_X5_needRange l D hfl _ _ _ _) dX5_recut_14 (Nat.le_of_ble_eq_true rfl) (by decide) (fun E h => Or.inr ⟨h.1, h_i, i, hi, rfl, h.2⟩) (fun _ => rfl) ?_
  rintro _ ⟨h2, rfl⟩
  refine r_aload3 (pc := 17) C dX5_recut_17 ?_
  refine gX5_280 (pc := 18) C hT (by assumption) dX5_recut_18 ?_
  refine r_iload2 (pc := 21) C dX5_recut_21 ?_
  refine r_isub (pc := 22) C dX5_recut_22 ?_
  refine r_istore4 (pc := 23) C dX5_recut_23 ?_
  refine r_aload3 (pc := 25) C dX5_recut_25 ?_
  refine r_iload2 (pc := 26) C dX5_recut_26 ?_
  refine pX5_280 (pc := 27) C hT (by assumption) dX5_recut_27 ?_
  refine r_aload0 (pc := 30) C dX5_recut_30 ?_
  refine r_dup (pc := 31) C dX5_recut_31 rfl ?_
  refine gX5_259 (pc := 32) C hT dX5_recut_32 ?_
  refine r_iload4 (pc := 35) C dX5_recut_35 ?_
  refine r_iadd (pc := 37) C dX5_recut_37 ?_
  refine pX5_259 (pc := 38) C hT dX5_recut_38 ?_
  refine r_iload4 (pc := 41) C dX5_recut_41 ?_
  exact r_iret C rfl dX5_recut_43 (⟨i, hi, rfl, h2, rfl, rfl⟩) (by decide) (by decide)

set_option maxRecDepth 100000 in
set_option maxHeartbeats 4000000 in
theorem c_X5_polished (l : Launch) (D : Gt) (hfl : l.stackTraces = false) (T : List Nat) (ad : Nat → Nat) (σ : Mm) {nr ng np nb : Nat} (hT : TG nr ng T) (hI : IC nr ng np nb σ) (x y : Int32) : KI D l yX5_polished (uws yX5_polished cX5_polished 4 (some .int)) (RM 9 2 12) [.ref (ad 0), .int x, .int y] (T, ad, cO D ad σ) (fun r S1 => ∃ i, i < ng ∧ x = nI i ∧ (0 ≤ y ∧ y ≤ 8) ∧ r = poC σ i y ∧ S1 = (T, ad, cO D ad σ)) (fun E => (E = sIOB ∧ ¬ (0 ≤ x ∧ x < nI ng)) ∨ (E = sIAE ∧ (0 ≤ x ∧ x < nI ng) ∧ ¬ (0 ≤ y ∧ y ≤ 8))) 2 12 := by
  refine KI_of (own := RX5) (L0 := [some (.ref (ad 0)), some (.int x), some (.int y), none]) (by decide +kernel) rfl (catc rfl (catc rfl (catc rfl cat0))) (Nat.le_of_ble_eq_true rfl) rfl ?_
  intro p e s m args below meth c A hnm C
  refine r_aload0 (pc := 0) C dX5_polished_0 ?_
  refine r_iload1 (pc := 1) C dX5_polished_1 ?_
  refine kX5_276x (pc := 2) C (c_X5_knownGem l D hfl _ _ _ hT hI.2.1 _) (hT.f (by decide)) rfl dX5_polished_2 (Nat.le_of_ble_eq_true rfl) (by decide) (fun E h => Or.inl h) (fun _ => rfl) ?_
  rintro _ _ ⟨i, hi, rfl, rfl, rfl⟩
  have h_i : 0 ≤ nI i ∧ nI i < nI ng := ⟨nI_pos' (by have := hT.2.1; omega), nI_lt (by omega) (by have := hT.2.1; omega)⟩
  refine r_astore3 (pc := 5) C dX5_polished_5 ?_
  refine r_iload2 (pc := 6) C dX5_polished_6 ?_
  by_cases hy0 : y = 0
  · refine r_tin (pc := 7) (tgt := 56) C dX5_polished_7 hy0 (by decide) (by decide) rfl (by decide) ?_
    refine r_aload3 (pc := 56) C dX5_polished_56 ?_
    refine gX5_281 (pc := 57) C hT (by assumption) dX5_polished_57 ?_
    exact r_iret C rfl dX5_polished_60 (⟨i, hi, rfl, by subst y; decide, by subst y; simp [poC, iF, *], rfl⟩) (by decide) (by decide)
  · by_cases hy1 : y = 1
    · refine r_tin (pc := 7) (tgt := 61) C dX5_polished_7 hy1 (by decide) (by decide) rfl (by decide) ?_
      refine r_aload3 (pc := 61) C dX5_polished_61 ?_
      refine gX5_280 (pc := 62) C hT (by assumption) dX5_polished_62 ?_
      exact r_iret C rfl dX5_polished_65 (⟨i, hi, rfl, by subst y; decide, by subst y; simp [poC, iF, *], rfl⟩) (by decide) (by decide)
    · by_cases hy2 : y = 2
      · refine r_tin (pc := 7) (tgt := 66) C dX5_polished_7 hy2 (by decide) (by decide) rfl (by decide) ?_
        refine r_aload3 (pc := 66) C dX5_polished_66 ?_
        refine gX5_283 (pc := 67) C hT (by assumption) dX5_polished_67 ?_
        exact r_iret C rfl dX5_polished_70 (⟨i, hi, rfl, by subst y; decide, by subst y; simp [poC, iF, *], rfl⟩) (by decide) (by decide)
      · by_cases hy3 : y = 3
        · refine r_tin (pc := 7) (tgt := 71) C dX5_polished_7 hy3 (by decide) (by decide) rfl (by decide) ?_
          refine r_aload3 (pc := 71) C dX5_polished_71 ?_
          refine gX5_286 (pc := 72) C hT (by assumption) dX5_polished_72 ?_
          exact r_iret C rfl dX5_polished_75 (⟨i, hi, rfl, by subst y; decide, by subst y; simp [poC, iF, *], rfl⟩) (by decide) (by decide)
        · by_cases hy4 : y = 4
          · refine r_tin (pc := 7) (tgt := 76) C dX5_polished_7 hy4 (by decide) (by decide) rfl (by decide) ?_
            refine r_aload3 (pc := 76) C dX5_polished_76 ?_
            refine gX5_289 (pc := 77) C hT (by assumption) dX5_polished_77 ?_
            exact r_iret C rfl dX5_polished_80 (⟨i, hi, rfl, by subst y; decide, by subst y; simp [poC, iF, *], rfl⟩) (by decide) (by decide)
          · by_cases hy5 : y = 5
            · refine r_tin (pc := 7) (tgt := 81) C dX5_polished_7 hy5 (by decide) (by decide) rfl (by decide) ?_
              refine r_aload3 (pc := 81) C dX5_polished_81 ?_
              refine kX5_290 (pc := 82) C (c_X0_grade l D _ _ _ hT (by assumption)) (hT.g (by assumption)) (cO_ge hT (by assumption)) dX5_polished_82 (Nat.le_of_ble_eq_true rfl) (by decide) ?_
              rintro _ _ ⟨rfl, rfl⟩
              exact r_iret C rfl dX5_polished_85 (⟨i, hi, rfl, by subst y; decide, by subst y; simp [poC, iF, *], rfl⟩) (by decide) (by decide)
            · by_cases hy6 : y = 6
              · refine r_tin (pc := 7) (tgt := 86) C dX5_polished_7 hy6 (by decide) (by decide) rfl (by decide) ?_
                refine r_aload3 (pc := 86) C dX5_polished_86 ?_
                refine kX5_293 (pc := 87) C (c_X0_gradedPrice l D _ _ _ hT (by assumption)) (hT.g (by assumption)) (cO_ge hT (by assumption)) dX5_polished_87 (Nat.le_of_ble_eq_true rfl) (by decide) ?_
                rintro _ _ ⟨rfl, rfl⟩
                exact r_iret C rfl dX5_polished_90 (⟨i, hi, rfl, by subst y; decide, by subst y; simp [poC, iF, *], rfl⟩) (by decide) (by decide)
              · by_cases hy7 : y = 7
                · refine r_tin (pc := 7) (tgt := 91) C dX5_polished_7 hy7 (by decide) (by decide) rfl (by decide) ?_
                  refine r_aload3 (pc := 91) C dX5_polished_91 ?_
                  refine gX5_296 (pc := 92) C hT (by assumption) dX5_polished_92 ?_
                  exact r_iret C rfl dX5_polished_95 (⟨i, hi, rfl, by subst y; decide, by subst y; simp [poC, iF, *], rfl⟩) (by decide) (by decide)
                · by_cases hy8 : y = 8
                  · refine r_tin (pc := 7) (tgt := 96) C dX5_polished_7 hy8 (by decide) (by decide) rfl (by decide) ?_
                    refine r_aload3 (pc := 96) C dX5_polished_96 ?_
                    refine gX5_299 (pc := 97) C hT (by assumption) dX5_polished_97 ?_
                    exact r_iret C rfl dX5_polished_100 (⟨i, hi, rfl, by subst y; decide, by subst y; simp [poC, iF, *], rfl⟩) (by decide) (by decide)
                  · refine r_tout (pc := 7) (tgt := 101) C dX5_polished_7 (tsw (N := 9) (by decide) (fun k hk => by
                      rcases (show k = 0 ∨ k = 1 ∨ k = 2 ∨ k = 3 ∨ k = 4 ∨ k = 5 ∨ k = 6 ∨ k = 7 ∨ k = 8 by omega) with rfl | rfl | rfl | rfl | rfl | rfl | rfl | rfl | rfl
                      · exact hy0
                      · exact hy1
                      · exact hy2
                      · exact hy3
                      · exact hy4
                      · exact hy5
                      · exact hy6
                      · exact hy7
                      · exact hy8)) (by decide) ?_
                    exact r_thrW_IAE C hfl (List.mem_of_getElem? (i := 16) rfl) dX5_polished_101 dX5_polished_104 dX5_polished_105 dX5_polished_108 dX5_polished_111 ⟨by decide, Nat.le_of_ble_eq_true rfl, by decide, by decide, by decide, by decide⟩ (Or.inr ⟨rfl, h_i, by grind⟩) rfl

set_option maxRecDepth 100000 in
set_option maxHeartbeats 4000000 in
theorem c_X5_look (l : Launch) (D : Gt) (hfl : l.stackTraces = false) (T : List Nat) (ad : Nat → Nat) (σ : Mm) {nr ng np nb : Nat} (hT : TG nr ng T) (hI : IC nr ng np nb σ) (x y : Int32) : KI D l yX5_look (uws yX5_look cX5_look 5 (some .int)) (RM 9 40 400) [.ref (ad 0), .int x, .int y] (T, ad, cO D ad σ) (fun r S1 => ∃ j i, j < 3 ∧ i < ng ∧ x = nI j ∧ y = nI i ∧ ((σ 50 i >>> (nI j &&& 31)) &&& 1 = 0 ∧ gradeC σ i = -1) ∧ r = (mxI 0 (mnI 9 (σ 41 i + σ 12 j))) ∧ S1 = (T, ad, cO D ad (up (up (up (up (up σ 50 i (σ 50 i ||| ((1 : Int32) <<< (nI j &&& 31)))) 51 i (σ 51 i + 1)) 52 i (iF (σ 51 i = 0) (mxI 0 (mnI 9 (σ 41 i + σ 12 j))) (σ 52 i))) 53 i (iF (σ 51 i = 1) (mxI 0 (mnI 9 (σ 41 i + σ 12 j))) (σ 53 i))) 54 i (iF (¬ σ 51 i = 0 ∧ ¬ σ 51 i = 1) (mxI 0 (mnI 9 (σ 41 i + σ 12 j))) (σ 54 i))))) (fun E => (E = sIOB ∧ ¬ ((0 ≤ x ∧ x < nI 3) ∧ (0 ≤ y ∧ y < nI ng))) ∨ (E = sISE ∧ ((0 ≤ x ∧ x < nI 3) ∧ (0 ≤ y ∧ y < nI ng)) ∧ ∃ j i, j < 3 ∧ i < ng ∧ x = nI j ∧ y = nI i ∧ ¬ ((σ 50 i >>> (nI j &&& 31)) &&& 1 = 0 ∧ gradeC σ i = -1))) 40 400 := by
  refine KI_of (own := RX5) (L0 := [some (.ref (ad 0)), some (.int x), some (.int y), none, none]) (by decide +kernel) rfl (catc rfl (catc rfl (catc rfl cat0))) (Nat.le_of_ble_eq_true rfl) rfl ?_
  intro p e s m args below meth c A hnm C
  refine r_iload1 (pc := 0) C dX5_look_0 ?_
  refine r_aload0 (pc := 1) C dX5_look_1 ?_
  refine gX5_51 (pc := 2) C hT dX5_look_2 ?_
  refine l12 (pc := 5) C hT dX5_look_5 ?_
  refine kX5_66x (pc := 6) C (c_X5_needIndex l D hfl _ _ _) dX5_look_6 (Nat.le_of_ble_eq_true rfl) (by decide) (fun E h => Or.inl ⟨h.1, fun q => h.2 q.1⟩) (fun _ => rfl) ?_
  rintro _ ⟨h1, rfl⟩
  obtain ⟨j, hj, rfl⟩ := ix_of (N := 3) (by decide) h1
  refine r_aload0 (pc := 9) C dX5_look_9 ?_
  refine r_iload2 (pc := 10) C dX5_look_10 ?_
  refine kX5_276x (pc := 11) C (c_X5_knownGem l D hfl _ _ _ hT hI.2.1 _) (hT.f (by decide)) rfl dX5_look_11 (Nat.le_of_ble_eq_true rfl) (by decide) (fun E h => Or.inl ⟨h.1, fun q => h.2 q.2⟩) (fun _ => rfl) ?_
  rintro _ _ ⟨i, hi, rfl, rfl, rfl⟩
  have h_i : 0 ≤ nI i ∧ nI i < nI ng := ⟨nI_pos' (by have := hT.2.1; omega), nI_lt (by omega) (by have := hT.2.1; omega)⟩
  refine r_astore3 (pc := 14) C dX5_look_14 ?_
  refine r_aload3 (pc := 15) C dX5_look_15 ?_
  refine gX5_304 (pc := 16) C hT (by assumption) dX5_look_16 ?_
  refine r_iload1 (pc := 19) C dX5_look_19 ?_
  refine kX5_122 (pc := 20) C (c_X1_isBy l D _ _ _ (hT.l (by assumption)) (cO_l2 hT (by assumption)) _) (hT.l (by assumption)) (cO_l2 hT (by assumption)) dX5_look_20 (Nat.le_of_ble_eq_true rfl) (by decide) ?_
  rintro _ _ ⟨rfl, rfl⟩
  refine r_if_ne_b (pc := 23) C (tgt := 34) dX5_look_23 (by decide) (fun c_23 => ?_) (fun c_23 => ?_)
  · exact r_thrW_ISE C hfl (List.mem_of_getElem? (i := 9) rfl) dX5_look_34 dX5_look_37 dX5_look_38 dX5_look_41 dX5_look_44 ⟨by decide, Nat.le_of_ble_eq_true rfl, by decide, by decide, by decide, by decide⟩ (Or.inr ⟨rfl, ⟨h1, h_i⟩, j, i, hj, hi, rfl, rfl, by grind⟩) rfl
  · refine r_aload3 (pc := 26) C dX5_look_26 ?_
    refine kX5_290 (pc := 27) C (c_X0_grade l D _ _ _ hT (by assumption)) (hT.g (by assumption)) (cO_ge hT (by assumption)) dX5_look_27 (Nat.le_of_ble_eq_true rfl) (by decide) ?_
    rintro _ _ ⟨rfl, rfl⟩
    refine r_iconst (pc := 30) C (v := (-1)) dX5_look_30 (by decide) ?_
    refine r_icmp_eq (pc := 31) C (tgt := 45) dX5_look_31 (by decide) (fun c_31 => ?_) (fun c_31 => ?_)
    · refine r_aload3 (pc := 45) C dX5_look_45 ?_
      refine gX5_309 (pc := 46) C hT (by assumption) dX5_look_46 ?_
      refine r_aload0 (pc := 49) C dX5_look_49 ?_
      refine gX5_51 (pc := 50) C hT dX5_look_50 ?_
      refine r_iload1 (pc := 53) C dX5_look_53 ?_
      refine a12 (pc := 54) C hT rfl (by omega) dX5_look_54 ?_
      refine r_iadd (pc := 55) C dX5_look_55 ?_
      refine r_iconst (pc := 56) C (v := 0) dX5_look_56 (by decide) ?_
      refine r_bipush (pc := 57) C (v := 9) dX5_look_57 (by decide) ?_
      refine kX5_134 (pc := 59) C (c_X5_within l D _ _ _ _) dX5_look_59 (Nat.le_of_ble_eq_true rfl) (by decide) ?_
      rintro _ _ ⟨rfl, rfl⟩
      refine r_istore4 (pc := 62) C dX5_look_62 ?_
      refine r_aload3 (pc := 64) C dX5_look_64 ?_
      refine gX5_304 (pc := 65) C hT (by assumption) dX5_look_65 ?_
      refine r_iload1 (pc := 68) C dX5_look_68 ?_
      refine r_iload4 (pc := 69) C dX5_look_69 ?_
      refine kX5_138 (pc := 71) C (c_X1_add l D _ _ _ (hT.l (by assumption)) (cO_l2 hT (by assumption)) _ _) (hT.l (by assumption)) (cO_l2 hT (by assumption)) dX5_look_71 (Nat.le_of_ble_eq_true rfl) (by decide) ?_
      rintro _ rfl
      rw [opn_l hT hi (y0 := _) (y1 := _) (y2 := _) (y3 := _) (y4 := _)]
      refine r_iload4 (pc := 74) C dX5_look_74 ?_
      exact r_iret C rfl dX5_look_76 (⟨j, i, hj, hi, rfl, rfl, ⟨by grind, by assumption⟩, rfl, rfl⟩) (by decide) (by decide)
    · exact r_thrW_ISE C hfl (List.mem_of_getElem? (i := 9) rfl) dX5_look_34 dX5_look_37 dX5_look_38 dX5_look_41 dX5_look_44 ⟨by decide, Nat.le_of_ble_eq_true rfl, by decide, by decide, by decide, by decide⟩ (Or.inr ⟨rfl, ⟨h1, h_i⟩, j, i, hj, hi, rfl, rfl, by grind⟩) rfl

set_option maxRecDepth 100000 in
set_option maxHeartbeats 4000000 in
theorem c_X5_paper (l : Launch) (D : Gt) (hfl : l.stackTraces = false) (T : List Nat) (ad : Nat → Nat) (σ : Mm) {nr ng np nb : Nat} (hT : TG nr ng T) (hI : IC nr ng np nb σ) (x y : Int32) : KI D l yX5_paper (uws yX5_paper cX5_paper 5 (some .int)) (RM 9 40 400) [.ref (ad 0), .int x, .int y] (T, ad, cO D ad σ) (fun r S1 => ∃ i j, i < ng ∧ j < 4 ∧ x = nI i ∧ y = nI j ∧ (σ 48 i = -1 ∧ 0 ≤ (σ 13 j - σ 14 j - σ 47 i)) ∧ r = (σ 13 j - σ 14 j - σ 47 i) ∧ S1 = (T, ad, cO D ad (up (up σ 48 i (nI j)) 14 j (σ 14 j + σ 47 i)))) (fun E => (E = sIOB ∧ ¬ ((0 ≤ x ∧ x < nI ng) ∧ (0 ≤ y ∧ y < nI 4))) ∨ (E = sISE ∧ ((0 ≤ x ∧ x < nI ng) ∧ (0 ≤ y ∧ y < nI 4)) ∧ ∃ i j, i < ng ∧ j < 4 ∧ x = nI i ∧ y = nI j ∧ ¬ (σ 48 i = -1 ∧ 0 ≤ (σ 13 j - σ 14 j - σ 47 i)))) 40 400 := by
  refine KI_of (own := RX5) (L0 := [some (.ref (ad 0)), some (.int x), some (.int y), none, none]) (by decide +kernel) rfl (catc rfl (catc rfl (catc rfl cat0))) (Nat.le_of_ble_eq_true rfl) rfl ?_
  intro p e s m args below meth c A hnm C
  refine r_aload0 (pc := 0) C dX5_paper_0 ?_
  refine r_iload1 (pc := 1) C dX5_paper_1 ?_
  refine kX5_276x (pc := 2) C (c_X5_knownGem l D hfl _ _ _ hT hI.2.1 _) (hT.f (by decide)) rfl dX5_paper_2 (Nat.le_of_ble_eq_true rfl) (by decide) (fun E h => Or.inl ⟨h.1, fun q => h.2 q.1⟩) (fun _ => rfl) ?_
  rintro _ _ ⟨i, hi, rfl, rfl, rfl⟩
  have h_i : 0 ≤ nI i ∧ nI i < nI ng := ⟨nI_pos' (by have := hT.2.1; omega), nI_lt (by omega) (by have := hT.2.1; omega)⟩
  refine r_astore3 (pc := 5) C dX5_paper_5 ?_
  refine r_iload2 (pc := 6) C dX5_paper_6 ?_
  refine r_aload0 (pc := 7) C dX5_paper_7 ?_
  refine gX5_57 (pc := 8) C hT dX5_paper_8 ?_
  refine l14 (pc := 11) C hT dX5_paper_11 ?_
  refine kX5_66x (pc := 12) C (c_X5_needIndex l D hfl _ _ _) dX5_paper_12 (Nat.le_of_ble_eq_true rfl) (by decide) (fun E h => Or.inl ⟨h.1, fun q => h.2 q.2⟩) (fun _ => rfl) ?_
  rintro _ ⟨h1, rfl⟩
  obtain ⟨j, hj, rfl⟩ := ix_of (N := 4) (by decide) h1
  refine r_aload0 (pc := 15) C dX5_paper_15 ?_
  refine gX5_54 (pc := 16) C hT dX5_paper_16 ?_
  refine r_iload2 (pc := 19) C dX5_paper_19 ?_
  refine a13 (pc := 20) C hT rfl (by omega) dX5_paper_20 ?_
  refine r_aload0 (pc := 21) C dX5_paper_21 ?_
  refine gX5_57 (pc := 22) C hT dX5_paper_22 ?_
  refine r_iload2 (pc := 25) C dX5_paper_25 ?_
  refine a14 (pc := 26) C hT rfl (by omega) dX5_paper_26 ?_
  refine r_isub (pc := 27) C dX5_paper_27 ?_
  refine r_aload3 (pc := 28) C dX5_paper_28 ?_
  refine gX5_280 (pc := 29) C hT (by assumption) dX5_paper_29 ?_
  refine r_isub (pc := 32) C dX5_paper_32 ?_
  refine r_istore4 (pc := 33) C dX5_paper_33 ?_
  refine r_aload3 (pc := 35) C dX5_paper_35 ?_
  refine gX5_296 (pc := 36) C hT (by assumption) dX5_paper_36 ?_
  refine r_iconst (pc := 39) C (v := (-1)) dX5_paper_39 (by decide) ?_
  refine r_icmp_ne (pc := 40) C (tgt := 48) dX5_paper_40 (by decide) (fun c_40 => ?_) (fun c_40 => ?_)
  · exact r_thrW_ISE C hfl (List.mem_of_getElem? (i := 10) rfl) dX5_paper_48 dX5_paper_51 dX5_paper_52 dX5_paper_55 dX5_paper_58 ⟨by decide, Nat.le_of_ble_eq_true rfl, by decide, by decide, by decide, by decide⟩ (Or.inr ⟨rfl, ⟨h_i, h1⟩, i, j, hi, hj, rfl, rfl, by grind⟩) rfl
  · refine r_iload4 (pc := 43) C dX5_paper_43 ?_
    refine r_if_ge (pc := 45) C (tgt := 59) dX5_paper_45 (by decide) (fun c_45 => ?_) (fun c_45 => ?_)
    · refine r_aload3 (pc := 59) C dX5_paper_59 ?_
      refine r_iload2 (pc := 60) C dX5_paper_60 ?_
      refine pX5_296 (pc := 61) C hT (by assumption) dX5_paper_61 ?_
      refine r_aload0 (pc := 64) C dX5_paper_64 ?_
      refine gX5_57 (pc := 65) C hT dX5_paper_65 ?_
      refine r_iload2 (pc := 68) C dX5_paper_68 ?_
      refine r_dup2 (pc := 69) C dX5_paper_69 rfl rfl ?_
      refine a14 (pc := 70) C hT rfl (by omega) dX5_paper_70 ?_
      refine r_aload3 (pc := 71) C dX5_paper_71 ?_
      refine gX5_280 (pc := 72) C hT (by assumption) dX5_paper_72 ?_
      refine r_iadd (pc := 75) C dX5_paper_75 ?_
      refine b14 (pc := 76) C hT rfl (by omega) dX5_paper_76 ?_
      refine r_iload4 (pc := 77) C dX5_paper_77 ?_
      exact r_iret C rfl dX5_paper_79 (⟨i, j, hi, hj, rfl, rfl, ⟨by assumption, by assumption⟩, rfl, rfl⟩) (by decide) (by decide)
    · exact r_thrW_ISE C hfl (List.mem_of_getElem? (i := 10) rfl) dX5_paper_48 dX5_paper_51 dX5_paper_52 dX5_paper_55 dX5_paper_58 ⟨by decide, Nat.le_of_ble_eq_true rfl, by decide, by decide, by decide, by decide⟩ (Or.inr ⟨rfl, ⟨h_i, h1⟩, i, j, hi, hj, rfl, rfl, by grind⟩) rfl

set_option maxRecDepth 100000 in
set_option maxHeartbeats 4000000 in
theorem c_X5_all (l : Launch) (D : Gt) (hfl : l.stackTraces = false) (T : List Nat) (ad : Nat → Nat) (σ : Mm) {nr ng np nb : Nat} (hT : TG nr ng T) (hI : IC nr ng np nb σ) (y : Int32) : KI D l yX5_all (uws yX5_all cX5_all 2 (some .int)) (RM 9 2 12) [.ref (ad 0), .int y] (T, ad, cO D ad σ) (fun r S1 => (0 ≤ y ∧ y ≤ 5) ∧ r = alC σ y ∧ S1 = (T, ad, cO D ad σ)) (fun E => E = sIAE ∧ ¬ (0 ≤ y ∧ y ≤ 5)) 2 12 := by
  refine KI_of (own := RX5) (L0 := [some (.ref (ad 0)), some (.int y)]) (by decide +kernel) rfl (catc rfl (catc rfl cat0)) (Nat.le_of_ble_eq_true rfl) rfl ?_
  intro p e s m args below meth c A hnm C
  refine r_iload1 (pc := 0) C dX5_all_0 ?_
  by_cases hy0 : y = 0
  · refine r_tin (pc := 1) (tgt := 40) C dX5_all_1 hy0 (by decide) (by decide) rfl (by decide) ?_
    refine r_aload0 (pc := 40) C dX5_all_40 ?_
    refine gX5_54 (pc := 41) C hT dX5_all_41 ?_
    refine kX5_312 (pc := 44) C (c_X5_sumOf l D _ _ _ (hT.f (k := 13) (by decide)) (N := 4) (h := σ 13) rfl (by decide)) dX5_all_44 (Nat.le_of_ble_eq_true rfl) (by decide) ?_
    rintro _ _ ⟨rfl, rfl⟩
    exact r_iret C rfl dX5_all_47 (⟨by rw [hy0]; decide, (iF_t hy0).symm, rfl⟩) (by decide) (by decide)
  · by_cases hy1 : y = 1
    · refine r_tin (pc := 1) (tgt := 48) C dX5_all_1 hy1 (by decide) (by decide) rfl (by decide) ?_
      refine r_aload0 (pc := 48) C dX5_all_48 ?_
      refine kX5_316 (pc := 49) C (c_X5_roughWeight l D _ _ _ hT hI.1) (hT.f (by decide)) rfl dX5_all_49 (Nat.le_of_ble_eq_true rfl) (by decide) ?_
      rintro _ _ ⟨hr1, hs1⟩
      rw [hr1, hs1]
      exact r_iret C rfl dX5_all_52 (⟨by rw [hy1]; decide, ((iF_f hy0).trans (iF_t hy1)).symm, rfl⟩) (by decide) (by decide)
    · by_cases hy2 : y = 2
      · refine r_tin (pc := 1) (tgt := 53) C dX5_all_1 hy2 (by decide) (by decide) rfl (by decide) ?_
        refine r_aload0 (pc := 53) C dX5_all_53 ?_
        refine kX5_319 (pc := 54) C (c_X5_polishedWeight l D _ _ _ hT hI.2.1) (hT.f (by decide)) rfl dX5_all_54 (Nat.le_of_ble_eq_true rfl) (by decide) ?_
        rintro _ _ ⟨hr1, hs1⟩
        rw [hr1, hs1]
        exact r_iret C rfl dX5_all_57 (⟨by rw [hy2]; decide, ((iF_f hy0).trans ((iF_f hy1).trans (iF_t hy2))).symm, rfl⟩) (by decide) (by decide)
      · by_cases hy3 : y = 3
        · refine r_tin (pc := 1) (tgt := 58) C dX5_all_1 hy3 (by decide) (by decide) rfl (by decide) ?_
          refine r_aload0 (pc := 58) C dX5_all_58 ?_
          refine gX5_259 (pc := 59) C hT dX5_all_59 ?_
          exact r_iret C rfl dX5_all_62 (⟨by rw [hy3]; decide, ((iF_f hy0).trans ((iF_f hy1).trans ((iF_f hy2).trans (iF_t hy3)))).symm, rfl⟩) (by decide) (by decide)
        · by_cases hy4 : y = 4
          · refine r_tin (pc := 1) (tgt := 63) C dX5_all_1 hy4 (by decide) (by decide) rfl (by decide) ?_
            refine r_aload0 (pc := 63) C dX5_all_63 ?_
            refine gX5_57 (pc := 64) C hT dX5_all_64 ?_
            refine kX5_312 (pc := 67) C (c_X5_sumOf l D _ _ _ (hT.f (k := 14) (by decide)) (N := 4) (h := σ 14) rfl (by decide)) dX5_all_67 (Nat.le_of_ble_eq_true rfl) (by decide) ?_
            rintro _ _ ⟨rfl, rfl⟩
            exact r_iret C rfl dX5_all_70 (⟨by rw [hy4]; decide, ((iF_f hy0).trans ((iF_f hy1).trans ((iF_f hy2).trans ((iF_f hy3).trans (iF_t hy4))))).symm, rfl⟩) (by decide) (by decide)
          · by_cases hy5 : y = 5
            · refine r_tin (pc := 1) (tgt := 71) C dX5_all_1 hy5 (by decide) (by decide) rfl (by decide) ?_
              refine r_aload0 (pc := 71) C dX5_all_71 ?_
              refine kX5_322 (pc := 72) C (c_X5_wrongPapers l D _ _ _ hT hI.2.1) (hT.f (by decide)) rfl dX5_all_72 (Nat.le_of_ble_eq_true rfl) (by decide) ?_
              rintro _ _ ⟨hr1, hs1⟩
              rw [hr1, hs1]
              exact r_iret C rfl dX5_all_75 (⟨by rw [hy5]; decide, ((iF_f hy0).trans ((iF_f hy1).trans ((iF_f hy2).trans ((iF_f hy3).trans (iF_f hy4))))).symm, rfl⟩) (by decide) (by decide)
            · refine r_tout (pc := 1) (tgt := 76) C dX5_all_1 (tsw (N := 6) (by decide) (fun k hk => by
                rcases (show k = 0 ∨ k = 1 ∨ k = 2 ∨ k = 3 ∨ k = 4 ∨ k = 5 by omega) with rfl | rfl | rfl | rfl | rfl | rfl
                · exact hy0
                · exact hy1
                · exact hy2
                · exact hy3
                · exact hy4
                · exact hy5)) (by decide) ?_
              exact r_thrW_IAE C hfl (List.mem_of_getElem? (i := 11) rfl) dX5_all_76 dX5_all_79 dX5_all_80 dX5_all_83 dX5_all_86 ⟨by decide, Nat.le_of_ble_eq_true rfl, by decide, by decide, by decide, by decide⟩ (⟨rfl, by grind⟩) rfl


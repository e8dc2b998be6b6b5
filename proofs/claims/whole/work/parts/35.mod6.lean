theorem lt4 {y : Int32} (h : y < 4) : y ≤ 3 := by
  rw [Int32.le_iff_toInt_le]
  have h1 := Int32.lt_iff_toInt_lt.mp h
  have h2 : (3 : Int32).toInt = 3 := rfl
  have h3 : (4 : Int32).toInt = 4 := rfl
  omega
theorem le3 {y : Int32} (h : y ≤ 3) : y < 4 := by
  rw [Int32.lt_iff_toInt_lt]
  have h1 := Int32.le_iff_toInt_le.mp h
  have h2 : (3 : Int32).toInt = 3 := rfl
  have h3 : (4 : Int32).toInt = 4 := rfl
  omega
set_option maxRecDepth 100000 in
set_option maxHeartbeats 1000000 in
theorem c_X6_paper (l : Launch) (D : Gt) (T : List Nat) (ad : Nat → Nat) (σ : Mm) {nr ng : Nat} (hT : TG nr ng T) {np nb : Nat} (hM : ML nr ng np nb σ) (x y : Int32) : KI D l yX6_paper (uws yX6_paper cX6_paper 4 (some .int)) (RM 7 0 0) [.ref (ad 400), .int x, .int y] (T, ad, cO D ad σ) (fun r S1 => ((cd2 ((0 ≤ x ∧ x < nI ng) ∧ (0 ≤ y ∧ y ≤ 3)) (σ 92 x.toNatClampNeg = -1 ∧ σ 97 y.toNatClampNeg + σ 88 x.toNatClampNeg ≤ cmM σ y nr)) = 0 → r = cmM (up (up (up σ 60 0 0) 92 x.toNatClampNeg y) 97 y.toNatClampNeg ((up σ 60 0 0) 97 y.toNatClampNeg + (up σ 60 0 0) 88 x.toNatClampNeg)) y nr - (up (up (up σ 60 0 0) 92 x.toNatClampNeg y) 97 y.toNatClampNeg ((up σ 60 0 0) 97 y.toNatClampNeg + (up σ 60 0 0) 88 x.toNatClampNeg)) 97 y.toNatClampNeg ∧ S1 = (T, ad, cO D ad (up (up (up σ 60 0 0) 92 x.toNatClampNeg y) 97 y.toNatClampNeg ((up σ 60 0 0) 97 y.toNatClampNeg + (up σ 60 0 0) 88 x.toNatClampNeg)))) ∧ (¬ (cd2 ((0 ≤ x ∧ x < nI ng) ∧ (0 ≤ y ∧ y ≤ 3)) (σ 92 x.toNatClampNeg = -1 ∧ σ 97 y.toNatClampNeg + σ 88 x.toNatClampNeg ≤ cmM σ y nr)) = 0 → r = 0 ∧ S1 = (T, ad, cO D ad (up σ 60 0 (cd2 ((0 ≤ x ∧ x < nI ng) ∧ (0 ≤ y ∧ y ≤ 3)) (σ 92 x.toNatClampNeg = -1 ∧ σ 97 y.toNatClampNeg + σ 88 x.toNatClampNeg ≤ cmM σ y nr)))))) (nX) 0 0 := by
  refine KI_of (own := RX6) (L0 := [some (.ref (ad 400)), some (.int x), some (.int y), none]) (by decide +kernel) rfl (catc rfl (catc rfl (catc rfl cat0))) (Nat.le_of_ble_eq_true rfl) rfl ?_
  intro p e s m args below meth c A hnm C
  have hS := hM
  obtain ⟨hm1, hm3, hm26, hm18, hnp, hnr, hng, hnb5, hb, hsc, hlc, hpa, hro, hof, hte⟩ := hM
  by_cases h_x : 0 ≤ x ∧ x < nI ng
  · obtain ⟨i, hi, rfl⟩ := ix_of (N := ng) (by omega) h_x
    rw [nI_clamp (by omega)]
    by_cases h_y : 0 ≤ y ∧ y < 4
    · obtain ⟨j, hj, rfl⟩ := ix_of (N := 4) (by omega) h_y
      rw [nI_clamp (by omega)]
      refine r_aload0 (pc := 0) C dX6_paper_0 ?_
      refine r_iload1 (pc := 1) C dX6_paper_1 ?_
      refine kX6_194 (pc := 2) C (c_X6_isPolished l D _ _ _ hT _ hm26) (hT.f (by decide)) rfl dX6_paper_2 (Nat.le_of_ble_eq_true rfl) (by decide) ?_
      rintro _ _ ⟨rfl, rfl⟩
      refine r_if_eq_b (pc := 5) C (tgt := 21) dX6_paper_5 (by decide) (fun c_5 => ?_) (fun c_5 => ?_)
      · first | exact absurd h_x c_5 | exact absurd ⟨h_y.1, lt4 h_y.2⟩ c_14
      · refine r_iload2 (pc := 8) C dX6_paper_8 ?_
        refine r_iconst (pc := 9) C (v := 0) dX6_paper_9 (by decide) ?_
        refine r_iconst (pc := 10) C (v := 3) dX6_paper_10 (by decide) ?_
        refine kX6_114 (pc := 11) C (c_X6_in l D _ _ _ _) dX6_paper_11 (Nat.le_of_ble_eq_true rfl) (by decide) ?_
        rintro _ _ ⟨rfl, rfl⟩
        refine r_if_eq_b (pc := 14) C (tgt := 21) dX6_paper_14 (by decide) (fun c_14 => ?_) (fun c_14 => ?_)
        · first | exact absurd h_x c_5 | exact absurd ⟨h_y.1, lt4 h_y.2⟩ c_14
        · refine r_iconst (pc := 17) C (v := 1) dX6_paper_17 (by decide) ?_
          refine r_goto (pc := 18) C (tgt := 22) dX6_paper_18 (by decide) ?_
          refine r_istore3 (pc := 22) C dX6_paper_22 ?_
          refine r_aload0 (pc := 23) C dX6_paper_23 ?_
          refine r_iload3 (pc := 24) C dX6_paper_24 ?_
          refine r_iload3 (pc := 25) C dX6_paper_25 ?_
          refine r_if_eq (pc := 26) C (tgt := 64) dX6_paper_26 (by decide) (fun c_26 => ?_) (fun c_26 => ?_)
          · refine r_iconst (pc := 64) C (v := 0) dX6_paper_64 (by decide) ?_
            refine kX6_124 (pc := 65) C (ask2 l D _ _ _ hT ((0 ≤ (nI i) ∧ (nI i) < nI ng) ∧ (0 ≤ (nI j) ∧ (nI j) ≤ 3)) (σ 92 i = -1 ∧ σ 97 j + σ 88 i ≤ cmM σ (nI j) nr) ((bI_t ⟨c_5, c_14⟩).symm) (fun hP0 => by first | exact absurd (show (1 : Int32) = 0 from c_26) (by decide) | exact (bI_f (fun h => absurd h.1 c_36)).symm | exact (bI_f (fun h => absurd h.2 (Int32.not_le.mpr c_57))).symm | exact (bI_t ⟨c_36, Int32.not_lt.mp c_57⟩).symm)) (hT.f (by decide)) rfl dX6_paper_65 (Nat.le_of_ble_eq_true rfl) (by decide) ?_
            rintro _ _ ⟨rfl, rfl⟩
            refine r_if_ne_b (pc := 68) C (tgt := 73) dX6_paper_68 (by decide) (fun c_68 => ?_) (fun c_68 => ?_)
            · have hok : (cd2 ((0 ≤ (nI i) ∧ (nI i) < nI ng) ∧ (0 ≤ (nI j) ∧ (nI j) ≤ 3)) (σ 92 i = -1 ∧ σ 97 j + σ 88 i ≤ cmM σ (nI j) nr)) = 0 := cd2_t c_68
              rw [hok]
              obtain ⟨τ, hτ⟩ : ∃ τ, up σ 60 0 0 = τ := ⟨_, rfl⟩
              rw [hτ]
              obtain ⟨hm1, hm3, hm26, hm18, hnp, hnr, hng, hnb5, hb, hsc, hlc, hpa, hro, hof, hte⟩ := (hτ ▸ ML_up 0 hS : ML nr ng np nb τ)
              obtain ⟨hP, hQ⟩ := c_68
              refine r_aload0 (pc := 73) C dX6_paper_73 ?_
              refine gX6_90 (pc := 74) C hT dX6_paper_74 ?_
              refine r_iload1 (pc := 77) C dX6_paper_77 ?_
              refine r_iload2 (pc := 78) C dX6_paper_78 ?_
              refine b432 (pc := 79) C hT rfl (by omega) dX6_paper_79 ?_
              refine r_aload0 (pc := 80) C dX6_paper_80 ?_
              refine gX6_105 (pc := 81) C hT dX6_paper_81 ?_
              refine r_iload2 (pc := 84) C dX6_paper_84 ?_
              refine r_dup2 (pc := 85) C dX6_paper_85 rfl rfl ?_
              refine a437 (pc := 86) C hT rfl (by omega) dX6_paper_86 ?_
              rw [show (up τ 92 i (nI j)) 97 j = τ 97 j from rfl]
              refine r_aload0 (pc := 87) C dX6_paper_87 ?_
              refine gX6_78 (pc := 88) C hT dX6_paper_88 ?_
              refine r_iload1 (pc := 91) C dX6_paper_91 ?_
              refine a428 (pc := 92) C hT rfl (by omega) dX6_paper_92 ?_
              rw [show (up τ 92 i (nI j)) 88 i = τ 88 i from rfl]
              refine r_iadd (pc := 93) C dX6_paper_93 ?_
              refine b437 (pc := 94) C hT rfl (by omega) dX6_paper_94 ?_
              refine r_aload0 (pc := 95) C dX6_paper_95 ?_
              refine r_iload2 (pc := 96) C dX6_paper_96 ?_
              refine kX6_206 (pc := 97) C (c_X6_cameOf l D _ _ (up (up τ 92 i (nI j)) 97 j (τ 97 j + τ 88 i)) hT (show τ 60 3 = _ from hm3) (fun s hs => (hpa s hs).elim fun a h => ⟨a, Nat.lt_of_lt_of_le h.1 hnp, h.2⟩) _) (hT.f (by decide)) rfl dX6_paper_97 (Nat.le_of_ble_eq_true rfl) (by decide) ?_
              rintro _ _ ⟨rfl, rfl⟩
              refine r_aload0 (pc := 100) C dX6_paper_100 ?_
              refine gX6_105 (pc := 101) C hT dX6_paper_101 ?_
              refine r_iload2 (pc := 104) C dX6_paper_104 ?_
              refine a437 (pc := 105) C hT rfl (by omega) dX6_paper_105 ?_
              refine r_isub (pc := 106) C dX6_paper_106 ?_
              exact r_iret C rfl dX6_paper_107 (by first | exact ⟨fun q => absurd q hno, fun _ => ⟨rfl, rfl⟩⟩ | exact ⟨fun _ => ⟨rfl, rfl⟩, fun q => absurd rfl q⟩) (by decide) (by decide)
            · have hno : ¬ (cd2 ((0 ≤ (nI i) ∧ (nI i) < nI ng) ∧ (0 ≤ (nI j) ∧ (nI j) ≤ 3)) (σ 92 i = -1 ∧ σ 97 j + σ 88 i ≤ cmM σ (nI j) nr)) = 0 := cd2_f (by assumption)
              refine r_iconst (pc := 71) C (v := 0) dX6_paper_71 (by decide) ?_
              exact r_iret C rfl dX6_paper_72 (by first | exact ⟨fun q => absurd q hno, fun _ => ⟨rfl, rfl⟩⟩ | exact ⟨fun _ => ⟨rfl, rfl⟩, fun q => absurd rfl q⟩) (by decide) (by decide)
          · refine r_aload0 (pc := 29) C dX6_paper_29 ?_
            refine gX6_90 (pc := 30) C hT dX6_paper_30 ?_
            refine r_iload1 (pc := 33) C dX6_paper_33 ?_
            refine a432 (pc := 34) C hT rfl (by omega) dX6_paper_34 ?_
            refine r_iconst (pc := 35) C (v := (-1)) dX6_paper_35 (by decide) ?_
            refine r_icmp_ne (pc := 36) C (tgt := 64) dX6_paper_36 (by decide) (fun c_36 => ?_) (fun c_36 => ?_)
            · refine r_iconst (pc := 64) C (v := 0) dX6_paper_64 (by decide) ?_
              refine kX6_124 (pc := 65) C (ask2 l D _ _ _ hT ((0 ≤ (nI i) ∧ (nI i) < nI ng) ∧ (0 ≤ (nI j) ∧ (nI j) ≤ 3)) (σ 92 i = -1 ∧ σ 97 j + σ 88 i ≤ cmM σ (nI j) nr) ((bI_t ⟨c_5, c_14⟩).symm) (fun hP0 => by first | exact absurd (show (1 : Int32) = 0 from c_26) (by decide) | exact (bI_f (fun h => absurd h.1 c_36)).symm | exact (bI_f (fun h => absurd h.2 (Int32.not_le.mpr c_57))).symm | exact (bI_t ⟨c_36, Int32.not_lt.mp c_57⟩).symm)) (hT.f (by decide)) rfl dX6_paper_65 (Nat.le_of_ble_eq_true rfl) (by decide) ?_
              rintro _ _ ⟨rfl, rfl⟩
              refine r_if_ne_b (pc := 68) C (tgt := 73) dX6_paper_68 (by decide) (fun c_68 => ?_) (fun c_68 => ?_)
              · have hok : (cd2 ((0 ≤ (nI i) ∧ (nI i) < nI ng) ∧ (0 ≤ (nI j) ∧ (nI j) ≤ 3)) (σ 92 i = -1 ∧ σ 97 j + σ 88 i ≤ cmM σ (nI j) nr)) = 0 := cd2_t c_68
                rw [hok]
                obtain ⟨τ, hτ⟩ : ∃ τ, up σ 60 0 0 = τ := ⟨_, rfl⟩
                rw [hτ]
                obtain ⟨hm1, hm3, hm26, hm18, hnp, hnr, hng, hnb5, hb, hsc, hlc, hpa, hro, hof, hte⟩ := (hτ ▸ ML_up 0 hS : ML nr ng np nb τ)
                obtain ⟨hP, hQ⟩ := c_68
                refine r_aload0 (pc := 73) C dX6_paper_73 ?_
                refine gX6_90 (pc := 74) C hT dX6_paper_74 ?_
                refine r_iload1 (pc := 77) C dX6_paper_77 ?_
                refine r_iload2 (pc := 78) C dX6_paper_78 ?_
                refine b432 (pc := 79) C hT rfl (by omega) dX6_paper_79 ?_
                refine r_aload0 (pc := 80) C dX6_paper_80 ?_
                refine gX6_105 (pc := 81) C hT dX6_paper_81 ?_
                refine r_iload2 (pc := 84) C dX6_paper_84 ?_
                refine r_dup2 (pc := 85) C dX6_paper_85 rfl rfl ?_
                refine a437 (pc := 86) C hT rfl (by omega) dX6_paper_86 ?_
                rw [show (up τ 92 i (nI j)) 97 j = τ 97 j from rfl]
                refine r_aload0 (pc := 87) C dX6_paper_87 ?_
                refine gX6_78 (pc := 88) C hT dX6_paper_88 ?_
                refine r_iload1 (pc := 91) C dX6_paper_91 ?_
                refine a428 (pc := 92) C hT rfl (by omega) dX6_paper_92 ?_
                rw [show (up τ 92 i (nI j)) 88 i = τ 88 i from rfl]
                refine r_iadd (pc := 93) C dX6_paper_93 ?_
                refine b437 (pc := 94) C hT rfl (by omega) dX6_paper_94 ?_
                refine r_aload0 (pc := 95) C dX6_paper_95 ?_
                refine r_iload2 (pc := 96) C dX6_paper_96 ?_
                refine kX6_206 (pc := 97) C (c_X6_cameOf l D _ _ (up (up τ 92 i (nI j)) 97 j (τ 97 j + τ 88 i)) hT (show τ 60 3 = _ from hm3) (fun s hs => (hpa s hs).elim fun a h => ⟨a, Nat.lt_of_lt_of_le h.1 hnp, h.2⟩) _) (hT.f (by decide)) rfl dX6_paper_97 (Nat.le_of_ble_eq_true rfl) (by decide) ?_
                rintro _ _ ⟨rfl, rfl⟩
                refine r_aload0 (pc := 100) C dX6_paper_100 ?_
                refine gX6_105 (pc := 101) C hT dX6_paper_101 ?_
                refine r_iload2 (pc := 104) C dX6_paper_104 ?_
                refine a437 (pc := 105) C hT rfl (by omega) dX6_paper_105 ?_
                refine r_isub (pc := 106) C dX6_paper_106 ?_
                exact r_iret C rfl dX6_paper_107 (by first | exact ⟨fun q => absurd q hno, fun _ => ⟨rfl, rfl⟩⟩ | exact ⟨fun _ => ⟨rfl, rfl⟩, fun q => absurd rfl q⟩) (by decide) (by decide)
              · have hno : ¬ (cd2 ((0 ≤ (nI i) ∧ (nI i) < nI ng) ∧ (0 ≤ (nI j) ∧ (nI j) ≤ 3)) (σ 92 i = -1 ∧ σ 97 j + σ 88 i ≤ cmM σ (nI j) nr)) = 0 := cd2_f (by assumption)
                refine r_iconst (pc := 71) C (v := 0) dX6_paper_71 (by decide) ?_
                exact r_iret C rfl dX6_paper_72 (by first | exact ⟨fun q => absurd q hno, fun _ => ⟨rfl, rfl⟩⟩ | exact ⟨fun _ => ⟨rfl, rfl⟩, fun q => absurd rfl q⟩) (by decide) (by decide)
            · refine r_aload0 (pc := 39) C dX6_paper_39 ?_
              refine gX6_105 (pc := 40) C hT dX6_paper_40 ?_
              refine r_iload2 (pc := 43) C dX6_paper_43 ?_
              refine a437 (pc := 44) C hT rfl (by omega) dX6_paper_44 ?_
              refine r_aload0 (pc := 45) C dX6_paper_45 ?_
              refine gX6_78 (pc := 46) C hT dX6_paper_46 ?_
              refine r_iload1 (pc := 49) C dX6_paper_49 ?_
              refine a428 (pc := 50) C hT rfl (by omega) dX6_paper_50 ?_
              refine r_iadd (pc := 51) C dX6_paper_51 ?_
              refine r_aload0 (pc := 52) C dX6_paper_52 ?_
              refine r_iload2 (pc := 53) C dX6_paper_53 ?_
              refine kX6_206 (pc := 54) C (c_X6_cameOf l D _ _ _ hT hm3 (fun s hs => (hpa s hs).elim fun a h => ⟨a, Nat.lt_of_lt_of_le h.1 hnp, h.2⟩) _) (hT.f (by decide)) rfl dX6_paper_54 (Nat.le_of_ble_eq_true rfl) (by decide) ?_
              rintro _ _ ⟨rfl, rfl⟩
              refine r_icmp_gt (pc := 57) C (tgt := 64) dX6_paper_57 (by decide) (fun c_57 => ?_) (fun c_57 => ?_)
              · refine r_iconst (pc := 64) C (v := 0) dX6_paper_64 (by decide) ?_
                refine kX6_124 (pc := 65) C (ask2 l D _ _ _ hT ((0 ≤ (nI i) ∧ (nI i) < nI ng) ∧ (0 ≤ (nI j) ∧ (nI j) ≤ 3)) (σ 92 i = -1 ∧ σ 97 j + σ 88 i ≤ cmM σ (nI j) nr) ((bI_t ⟨c_5, c_14⟩).symm) (fun hP0 => by first | exact absurd (show (1 : Int32) = 0 from c_26) (by decide) | exact (bI_f (fun h => absurd h.1 c_36)).symm | exact (bI_f (fun h => absurd h.2 (Int32.not_le.mpr c_57))).symm | exact (bI_t ⟨c_36, Int32.not_lt.mp c_57⟩).symm)) (hT.f (by decide)) rfl dX6_paper_65 (Nat.le_of_ble_eq_true rfl) (by decide) ?_
                rintro _ _ ⟨rfl, rfl⟩
                refine r_if_ne_b (pc := 68) C (tgt := 73) dX6_paper_68 (by decide) (fun c_68 => ?_) (fun c_68 => ?_)
                · have hok : (cd2 ((0 ≤ (nI i) ∧ (nI i) < nI ng) ∧ (0 ≤ (nI j) ∧ (nI j) ≤ 3)) (σ 92 i = -1 ∧ σ 97 j + σ 88 i ≤ cmM σ (nI j) nr)) = 0 := cd2_t c_68
                  rw [hok]
                  obtain ⟨τ, hτ⟩ : ∃ τ, up σ 60 0 0 = τ := ⟨_, rfl⟩
                  rw [hτ]
                  obtain ⟨hm1, hm3, hm26, hm18, hnp, hnr, hng, hnb5, hb, hsc, hlc, hpa, hro, hof, hte⟩ := (hτ ▸ ML_up 0 hS : ML nr ng np nb τ)
                  obtain ⟨hP, hQ⟩ := c_68
                  refine r_aload0 (pc := 73) C dX6_paper_73 ?_
                  refine gX6_90 (pc := 74) C hT dX6_paper_74 ?_
                  refine r_iload1 (pc := 77) C dX6_paper_77 ?_
                  refine r_iload2 (pc := 78) C dX6_paper_78 ?_
                  refine b432 (pc := 79) C hT rfl (by omega) dX6_paper_79 ?_
                  refine r_aload0 (pc := 80) C dX6_paper_80 ?_
                  refine gX6_105 (pc := 81) C hT dX6_paper_81 ?_
                  refine r_iload2 (pc := 84) C dX6_paper_84 ?_
                  refine r_dup2 (pc := 85) C dX6_paper_85 rfl rfl ?_
                  refine a437 (pc := 86) C hT rfl (by omega) dX6_paper_86 ?_
                  rw [show (up τ 92 i (nI j)) 97 j = τ 97 j from rfl]
                  refine r_aload0 (pc := 87) C dX6_paper_87 ?_
                  refine gX6_78 (pc := 88) C hT dX6_paper_88 ?_
                  refine r_iload1 (pc := 91) C dX6_paper_91 ?_
                  refine a428 (pc := 92) C hT rfl (by omega) dX6_paper_92 ?_
                  rw [show (up τ 92 i (nI j)) 88 i = τ 88 i from rfl]
                  refine r_iadd (pc := 93) C dX6_paper_93 ?_
                  refine b437 (pc := 94) C hT rfl (by omega) dX6_paper_94 ?_
                  refine r_aload0 (pc := 95) C dX6_paper_95 ?_
                  refine r_iload2 (pc := 96) C dX6_paper_96 ?_
                  refine kX6_206 (pc := 97) C (c_X6_cameOf l D _ _ (up (up τ 92 i (nI j)) 97 j (τ 97 j + τ 88 i)) hT (show τ 60 3 = _ from hm3) (fun s hs => (hpa s hs).elim fun a h => ⟨a, Nat.lt_of_lt_of_le h.1 hnp, h.2⟩) _) (hT.f (by decide)) rfl dX6_paper_97 (Nat.le_of_ble_eq_true rfl) (by decide) ?_
                  rintro _ _ ⟨rfl, rfl⟩
                  refine r_aload0 (pc := 100) C dX6_paper_100 ?_
                  refine gX6_105 (pc := 101) C hT dX6_paper_101 ?_
                  refine r_iload2 (pc := 104) C dX6_paper_104 ?_
                  refine a437 (pc := 105) C hT rfl (by omega) dX6_paper_105 ?_
                  refine r_isub (pc := 106) C dX6_paper_106 ?_
                  exact r_iret C rfl dX6_paper_107 (by first | exact ⟨fun q => absurd q hno, fun _ => ⟨rfl, rfl⟩⟩ | exact ⟨fun _ => ⟨rfl, rfl⟩, fun q => absurd rfl q⟩) (by decide) (by decide)
                · have hno : ¬ (cd2 ((0 ≤ (nI i) ∧ (nI i) < nI ng) ∧ (0 ≤ (nI j) ∧ (nI j) ≤ 3)) (σ 92 i = -1 ∧ σ 97 j + σ 88 i ≤ cmM σ (nI j) nr)) = 0 := cd2_f (by assumption)
                  refine r_iconst (pc := 71) C (v := 0) dX6_paper_71 (by decide) ?_
                  exact r_iret C rfl dX6_paper_72 (by first | exact ⟨fun q => absurd q hno, fun _ => ⟨rfl, rfl⟩⟩ | exact ⟨fun _ => ⟨rfl, rfl⟩, fun q => absurd rfl q⟩) (by decide) (by decide)
              · refine r_iconst (pc := 60) C (v := 1) dX6_paper_60 (by decide) ?_
                refine r_goto (pc := 61) C (tgt := 65) dX6_paper_61 (by decide) ?_
                refine kX6_124 (pc := 65) C (ask2 l D _ _ _ hT ((0 ≤ (nI i) ∧ (nI i) < nI ng) ∧ (0 ≤ (nI j) ∧ (nI j) ≤ 3)) (σ 92 i = -1 ∧ σ 97 j + σ 88 i ≤ cmM σ (nI j) nr) ((bI_t ⟨c_5, c_14⟩).symm) (fun hP0 => by first | exact absurd (show (1 : Int32) = 0 from c_26) (by decide) | exact (bI_f (fun h => absurd h.1 c_36)).symm | exact (bI_f (fun h => absurd h.2 (Int32.not_le.mpr c_57))).symm | exact (bI_t ⟨c_36, Int32.not_lt.mp c_57⟩).symm)) (hT.f (by decide)) rfl dX6_paper_65 (Nat.le_of_ble_eq_true rfl) (by decide) ?_
                rintro _ _ ⟨rfl, rfl⟩
                refine r_if_ne_b (pc := 68) C (tgt := 73) dX6_paper_68 (by decide) (fun c_68 => ?_) (fun c_68 => ?_)
                · have hok : (cd2 ((0 ≤ (nI i) ∧ (nI i) < nI ng) ∧ (0 ≤ (nI j) ∧ (nI j) ≤ 3)) (σ 92 i = -1 ∧ σ 97 j + σ 88 i ≤ cmM σ (nI j) nr)) = 0 := cd2_t c_68
                  rw [hok]
                  obtain ⟨τ, hτ⟩ : ∃ τ, up σ 60 0 0 = τ := ⟨_, rfl⟩
                  rw [hτ]
                  obtain ⟨hm1, hm3, hm26, hm18, hnp, hnr, hng, hnb5, hb, hsc, hlc, hpa, hro, hof, hte⟩ := (hτ ▸ ML_up 0 hS : ML nr ng np nb τ)
                  obtain ⟨hP, hQ⟩ := c_68
                  refine r_aload0 (pc := 73) C dX6_paper_73 ?_
                  refine gX6_90 (pc := 74) C hT dX6_paper_74 ?_
                  refine r_iload1 (pc := 77) C dX6_paper_77 ?_
                  refine r_iload2 (pc := 78) C dX6_paper_78 ?_
                  refine b432 (pc := 79) C hT rfl (by omega) dX6_paper_79 ?_
                  refine r_aload0 (pc := 80) C dX6_paper_80 ?_
                  refine gX6_105 (pc := 81) C hT dX6_paper_81 ?_
                  refine r_iload2 (pc := 84) C dX6_paper_84 ?_
                  refine r_dup2 (pc := 85) C dX6_paper_85 rfl rfl ?_
                  refine a437 (pc := 86) C hT rfl (by omega) dX6_paper_86 ?_
                  rw [show (up τ 92 i (nI j)) 97 j = τ 97 j from rfl]
                  refine r_aload0 (pc := 87) C dX6_paper_87 ?_
                  refine gX6_78 (pc := 88) C hT dX6_paper_88 ?_
                  refine r_iload1 (pc := 91) C dX6_paper_91 ?_
                  refine a428 (pc := 92) C hT rfl (by omega) dX6_paper_92 ?_
                  rw [show (up τ 92 i (nI j)) 88 i = τ 88 i from rfl]
                  refine r_iadd (pc := 93) C dX6_paper_93 ?_
                  refine b437 (pc := 94) C hT rfl (by omega) dX6_paper_94 ?_
                  refine r_aload0 (pc := 95) C dX6_paper_95 ?_
                  refine r_iload2 (pc := 96) C dX6_paper_96 ?_
                  refine kX6_206 (pc := 97) C (c_X6_cameOf l D _ _ (up (up τ 92 i (nI j)) 97 j (τ 97 j + τ 88 i)) hT (show τ 60 3 = _ from hm3) (fun s hs => (hpa s hs).elim fun a h => ⟨a, Nat.lt_of_lt_of_le h.1 hnp, h.2⟩) _) (hT.f (by decide)) rfl dX6_paper_97 (Nat.le_of_ble_eq_true rfl) (by decide) ?_
                  rintro _ _ ⟨rfl, rfl⟩
                  refine r_aload0 (pc := 100) C dX6_paper_100 ?_
                  refine gX6_105 (pc := 101) C hT dX6_paper_101 ?_
                  refine r_iload2 (pc := 104) C dX6_paper_104 ?_
                  refine a437 (pc := 105) C hT rfl (by omega) dX6_paper_105 ?_
                  refine r_isub (pc := 106) C dX6_paper_106 ?_
                  exact r_iret C rfl dX6_paper_107 (by first | exact ⟨fun q => absurd q hno, fun _ => ⟨rfl, rfl⟩⟩ | exact ⟨fun _ => ⟨rfl, rfl⟩, fun q => absurd rfl q⟩) (by decide) (by decide)
                · have hno : ¬ (cd2 ((0 ≤ (nI i) ∧ (nI i) < nI ng) ∧ (0 ≤ (nI j) ∧ (nI j) ≤ 3)) (σ 92 i = -1 ∧ σ 97 j + σ 88 i ≤ cmM σ (nI j) nr)) = 0 := cd2_f (by assumption)
                  refine r_iconst (pc := 71) C (v := 0) dX6_paper_71 (by decide) ?_
                  exact r_iret C rfl dX6_paper_72 (by first | exact ⟨fun q => absurd q hno, fun _ => ⟨rfl, rfl⟩⟩ | exact ⟨fun _ => ⟨rfl, rfl⟩, fun q => absurd rfl q⟩) (by decide) (by decide)
    · refine r_aload0 (pc := 0) C dX6_paper_0 ?_
      refine r_iload1 (pc := 1) C dX6_paper_1 ?_
      refine kX6_194 (pc := 2) C (c_X6_isPolished l D _ _ _ hT _ hm26) (hT.f (by decide)) rfl dX6_paper_2 (Nat.le_of_ble_eq_true rfl) (by decide) ?_
      rintro _ _ ⟨rfl, rfl⟩
      refine r_if_eq_b (pc := 5) C (tgt := 21) dX6_paper_5 (by decide) (fun c_5 => ?_) (fun c_5 => ?_)
      · refine r_iconst (pc := 21) C (v := 0) dX6_paper_21 (by decide) ?_
        refine r_istore3 (pc := 22) C dX6_paper_22 ?_
        refine r_aload0 (pc := 23) C dX6_paper_23 ?_
        refine r_iload3 (pc := 24) C dX6_paper_24 ?_
        refine r_iload3 (pc := 25) C dX6_paper_25 ?_
        refine r_if_eq (pc := 26) C (tgt := 64) dX6_paper_26 (by decide) (fun c_26 => ?_) (fun c_26 => ?_)
        · refine r_iconst (pc := 64) C (v := 0) dX6_paper_64 (by decide) ?_
          refine kX6_124 (pc := 65) C (ask2 l D _ _ _ hT ((0 ≤ (nI i) ∧ (nI i) < nI ng) ∧ (0 ≤ y ∧ y ≤ 3)) (σ 92 i = -1 ∧ σ 97 y.toNatClampNeg + σ 88 i ≤ cmM σ y nr) (by first | exact (bI_f (fun h => absurd h.1 c_5)).symm | exact (bI_f (fun h => absurd h.2 c_14)).symm) (fun hP0 => by first | exact absurd hP0.1 h_x | exact absurd (And.intro hP0.2.1 (le3 hP0.2.2)) h_y)) (hT.f (by decide)) rfl dX6_paper_65 (Nat.le_of_ble_eq_true rfl) (by decide) ?_
          rintro _ _ ⟨rfl, rfl⟩
          refine r_if_ne_b (pc := 68) C (tgt := 73) dX6_paper_68 (by decide) (fun c_68 => ?_) (fun c_68 => ?_)
          · first | exact absurd c_68.1 h_y | exact absurd c_68.1.2 h_y | exact absurd c_68.1.1 h_y | exact absurd (And.intro c_68.1.2.1 (le3 c_68.1.2.2)) h_y | (exfalso; grind)
          · have hno : ¬ (cd2 ((0 ≤ (nI i) ∧ (nI i) < nI ng) ∧ (0 ≤ y ∧ y ≤ 3)) (σ 92 i = -1 ∧ σ 97 y.toNatClampNeg + σ 88 i ≤ cmM σ y nr)) = 0 := cd2_f (by assumption)
            refine r_iconst (pc := 71) C (v := 0) dX6_paper_71 (by decide) ?_
            exact r_iret C rfl dX6_paper_72 (by first | exact ⟨fun q => absurd q hno, fun _ => ⟨rfl, rfl⟩⟩ | exact ⟨fun _ => ⟨rfl, rfl⟩, fun q => absurd rfl q⟩) (by decide) (by decide)
        · exact absurd rfl c_26
      · refine r_iload2 (pc := 8) C dX6_paper_8 ?_
        refine r_iconst (pc := 9) C (v := 0) dX6_paper_9 (by decide) ?_
        refine r_iconst (pc := 10) C (v := 3) dX6_paper_10 (by decide) ?_
        refine kX6_114 (pc := 11) C (c_X6_in l D _ _ _ _) dX6_paper_11 (Nat.le_of_ble_eq_true rfl) (by decide) ?_
        rintro _ _ ⟨rfl, rfl⟩
        refine r_if_eq_b (pc := 14) C (tgt := 21) dX6_paper_14 (by decide) (fun c_14 => ?_) (fun c_14 => ?_)
        · refine r_iconst (pc := 21) C (v := 0) dX6_paper_21 (by decide) ?_
          refine r_istore3 (pc := 22) C dX6_paper_22 ?_
          refine r_aload0 (pc := 23) C dX6_paper_23 ?_
          refine r_iload3 (pc := 24) C dX6_paper_24 ?_
          refine r_iload3 (pc := 25) C dX6_paper_25 ?_
          refine r_if_eq (pc := 26) C (tgt := 64) dX6_paper_26 (by decide) (fun c_26 => ?_) (fun c_26 => ?_)
          · refine r_iconst (pc := 64) C (v := 0) dX6_paper_64 (by decide) ?_
            refine kX6_124 (pc := 65) C (ask2 l D _ _ _ hT ((0 ≤ (nI i) ∧ (nI i) < nI ng) ∧ (0 ≤ y ∧ y ≤ 3)) (σ 92 i = -1 ∧ σ 97 y.toNatClampNeg + σ 88 i ≤ cmM σ y nr) (by first | exact (bI_f (fun h => absurd h.1 c_5)).symm | exact (bI_f (fun h => absurd h.2 c_14)).symm) (fun hP0 => by first | exact absurd hP0.1 h_x | exact absurd (And.intro hP0.2.1 (le3 hP0.2.2)) h_y)) (hT.f (by decide)) rfl dX6_paper_65 (Nat.le_of_ble_eq_true rfl) (by decide) ?_
            rintro _ _ ⟨rfl, rfl⟩
            refine r_if_ne_b (pc := 68) C (tgt := 73) dX6_paper_68 (by decide) (fun c_68 => ?_) (fun c_68 => ?_)
            · first | exact absurd c_68.1 h_y | exact absurd c_68.1.2 h_y | exact absurd c_68.1.1 h_y | exact absurd (And.intro c_68.1.2.1 (le3 c_68.1.2.2)) h_y | (exfalso; grind)
            · have hno : ¬ (cd2 ((0 ≤ (nI i) ∧ (nI i) < nI ng) ∧ (0 ≤ y ∧ y ≤ 3)) (σ 92 i = -1 ∧ σ 97 y.toNatClampNeg + σ 88 i ≤ cmM σ y nr)) = 0 := cd2_f (by assumption)
              refine r_iconst (pc := 71) C (v := 0) dX6_paper_71 (by decide) ?_
              exact r_iret C rfl dX6_paper_72 (by first | exact ⟨fun q => absurd q hno, fun _ => ⟨rfl, rfl⟩⟩ | exact ⟨fun _ => ⟨rfl, rfl⟩, fun q => absurd rfl q⟩) (by decide) (by decide)
          · exact absurd rfl c_26
        · first | exact absurd c_5 h_x | exact absurd (And.intro c_14.1 (le3 c_14.2)) h_y
  · refine r_aload0 (pc := 0) C dX6_paper_0 ?_
    refine r_iload1 (pc := 1) C dX6_paper_1 ?_
    refine kX6_194 (pc := 2) C (c_X6_isPolished l D _ _ _ hT _ hm26) (hT.f (by decide)) rfl dX6_paper_2 (Nat.le_of_ble_eq_true rfl) (by decide) ?_
    rintro _ _ ⟨rfl, rfl⟩
    refine r_if_eq_b (pc := 5) C (tgt := 21) dX6_paper_5 (by decide) (fun c_5 => ?_) (fun c_5 => ?_)
    · refine r_iconst (pc := 21) C (v := 0) dX6_paper_21 (by decide) ?_
      refine r_istore3 (pc := 22) C dX6_paper_22 ?_
      refine r_aload0 (pc := 23) C dX6_paper_23 ?_
      refine r_iload3 (pc := 24) C dX6_paper_24 ?_
      refine r_iload3 (pc := 25) C dX6_paper_25 ?_
      refine r_if_eq (pc := 26) C (tgt := 64) dX6_paper_26 (by decide) (fun c_26 => ?_) (fun c_26 => ?_)
      · refine r_iconst (pc := 64) C (v := 0) dX6_paper_64 (by decide) ?_
        refine kX6_124 (pc := 65) C (ask2 l D _ _ _ hT ((0 ≤ x ∧ x < nI ng) ∧ (0 ≤ y ∧ y ≤ 3)) (σ 92 x.toNatClampNeg = -1 ∧ σ 97 y.toNatClampNeg + σ 88 x.toNatClampNeg ≤ cmM σ y nr) (by first | exact (bI_f (fun h => absurd h.1 c_5)).symm | exact (bI_f (fun h => absurd h.2 c_14)).symm) (fun hP0 => by first | exact absurd hP0.1 h_x | exact absurd (And.intro hP0.2.1 (le3 hP0.2.2)) h_y)) (hT.f (by decide)) rfl dX6_paper_65 (Nat.le_of_ble_eq_true rfl) (by decide) ?_
        rintro _ _ ⟨rfl, rfl⟩
        refine r_if_ne_b (pc := 68) C (tgt := 73) dX6_paper_68 (by decide) (fun c_68 => ?_) (fun c_68 => ?_)
        · first | exact absurd c_68.1 h_x | exact absurd c_68.1.2 h_x | exact absurd c_68.1.1 h_x | exact absurd (And.intro c_68.1.2.1 (le3 c_68.1.2.2)) h_x | (exfalso; grind)
        · have hno : ¬ (cd2 ((0 ≤ x ∧ x < nI ng) ∧ (0 ≤ y ∧ y ≤ 3)) (σ 92 x.toNatClampNeg = -1 ∧ σ 97 y.toNatClampNeg + σ 88 x.toNatClampNeg ≤ cmM σ y nr)) = 0 := cd2_f (by assumption)
          refine r_iconst (pc := 71) C (v := 0) dX6_paper_71 (by decide) ?_
          exact r_iret C rfl dX6_paper_72 (by first | exact ⟨fun q => absurd q hno, fun _ => ⟨rfl, rfl⟩⟩ | exact ⟨fun _ => ⟨rfl, rfl⟩, fun q => absurd rfl q⟩) (by decide) (by decide)
      · exact absurd rfl c_26
    · refine r_iload2 (pc := 8) C dX6_paper_8 ?_
      refine r_iconst (pc := 9) C (v := 0) dX6_paper_9 (by decide) ?_
      refine r_iconst (pc := 10) C (v := 3) dX6_paper_10 (by decide) ?_
      refine kX6_114 (pc := 11) C (c_X6_in l D _ _ _ _) dX6_paper_11 (Nat.le_of_ble_eq_true rfl) (by decide) ?_
      rintro _ _ ⟨rfl, rfl⟩
      refine r_if_eq_b (pc := 14) C (tgt := 21) dX6_paper_14 (by decide) (fun c_14 => ?_) (fun c_14 => ?_)
      · refine r_iconst (pc := 21) C (v := 0) dX6_paper_21 (by decide) ?_
        refine r_istore3 (pc := 22) C dX6_paper_22 ?_
        refine r_aload0 (pc := 23) C dX6_paper_23 ?_
        refine r_iload3 (pc := 24) C dX6_paper_24 ?_
        refine r_iload3 (pc := 25) C dX6_paper_25 ?_
        refine r_if_eq (pc := 26) C (tgt := 64) dX6_paper_26 (by decide) (fun c_26 => ?_) (fun c_26 => ?_)
        · refine r_iconst (pc := 64) C (v := 0) dX6_paper_64 (by decide) ?_
          refine kX6_124 (pc := 65) C (ask2 l D _ _ _ hT ((0 ≤ x ∧ x < nI ng) ∧ (0 ≤ y ∧ y ≤ 3)) (σ 92 x.toNatClampNeg = -1 ∧ σ 97 y.toNatClampNeg + σ 88 x.toNatClampNeg ≤ cmM σ y nr) (by first | exact (bI_f (fun h => absurd h.1 c_5)).symm | exact (bI_f (fun h => absurd h.2 c_14)).symm) (fun hP0 => by first | exact absurd hP0.1 h_x | exact absurd (And.intro hP0.2.1 (le3 hP0.2.2)) h_y)) (hT.f (by decide)) rfl dX6_paper_65 (Nat.le_of_ble_eq_true rfl) (by decide) ?_
          rintro _ _ ⟨rfl, rfl⟩
          refine r_if_ne_b (pc := 68) C (tgt := 73) dX6_paper_68 (by decide) (fun c_68 => ?_) (fun c_68 => ?_)
          · first | exact absurd c_68.1 h_x | exact absurd c_68.1.2 h_x | exact absurd c_68.1.1 h_x | exact absurd (And.intro c_68.1.2.1 (le3 c_68.1.2.2)) h_x | (exfalso; grind)
          · have hno : ¬ (cd2 ((0 ≤ x ∧ x < nI ng) ∧ (0 ≤ y ∧ y ≤ 3)) (σ 92 x.toNatClampNeg = -1 ∧ σ 97 y.toNatClampNeg + σ 88 x.toNatClampNeg ≤ cmM σ y nr)) = 0 := cd2_f (by assumption)
            refine r_iconst (pc := 71) C (v := 0) dX6_paper_71 (by decide) ?_
            exact r_iret C rfl dX6_paper_72 (by first | exact ⟨fun q => absurd q hno, fun _ => ⟨rfl, rfl⟩⟩ | exact ⟨fun _ => ⟨rfl, rfl⟩, fun q => absurd rfl q⟩) (by decide) (by decide)
        · exact absurd rfl c_26
      · first | exact absurd c_5 h_x | exact absurd (And.intro c_14.1 (le3 c_14.2)) h_y


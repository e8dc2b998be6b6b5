theorem mid3_bd {a b c : Int32} (ha : bd18 a) (hb : bd18 b) (hc : bd18 c) : bd18 (mid3 a b c) := by
  have hmx : ∀ x y, bd18 x → bd18 y → bd18 (mxI x y) := fun x y h1 h2 => by rcases mxI_or x y with h | h <;> rw [h] <;> assumption
  have hmn : ∀ x y, bd18 x → bd18 y → bd18 (mnI x y) := fun x y h1 h2 => by rcases mnI_or x y with h | h <;> rw [h] <;> assumption
  exact hmx _ _ (hmn _ _ ha hb) (hmn _ _ (hmx _ _ ha hb) hc)
theorem bd_ne {a : Int32} (h : bd18 a) : ¬ a = -1 := fun q => by rw [q] at h; exact absurd h.1 (by decide)
theorem grade_3 {a b c : Int32} (ha : bd18 a) (hb : bd18 b) (hc : bd18 c) : ¬ gradeS 3 a b c = -1 := by
  unfold gradeS
  by_cases h : (2 : Int32) ≤ 3 ∧ a = b
  · rw [iF_t h]; exact bd_ne ha
  · rw [iF_f h, iF_t (by decide)]; exact bd_ne (mid3_bd ha hb hc)
theorem bI_1 {P : Prop} (h : P) : (1 : Int32) = bI P := (bI_t h).symm
set_option maxRecDepth 100000 in
set_option maxHeartbeats 4000000 in
theorem c_X6_sort (l : Launch) (D : Gt) (T : List Nat) (ad : Nat → Nat) (σ : Mm) {nr ng : Nat} (hT : TG nr ng T) {np nb : Nat} (hM : ML nr ng np nb σ) (x y : Int32) : KI D l yX6_sort (uws yX6_sort cX6_sort 5 (some .int)) (RM 7 0 0) [.ref (ad 400), .int x, .int y] (T, ad, cO D ad σ) (fun r S1 => ((cd2 ((0 ≤ x ∧ x ≤ 3) ∧ (0 ≤ y ∧ y < nI nr)) (σ 69 y.toNatClampNeg = 0 ∧ (σ 75 y.toNatClampNeg >>> (x &&& 31)) &&& 1 = 0 ∧ σ 73 y.toNatClampNeg < 3)) = 0 → r = (mxI 0 (mnI 18 ((up σ 60 0 0) 66 y.toNatClampNeg + (up σ 60 0 0) 67 y.toNatClampNeg + (up σ 60 0 0) 76 x.toNatClampNeg))) ∧ S1 = (T, ad, cO D ad (up (up (up (up σ 60 0 0) 74 (3 * y.toNatClampNeg + ((up σ 60 0 0) 73 y.toNatClampNeg).toNatClampNeg) (mxI 0 (mnI 18 ((up σ 60 0 0) 66 y.toNatClampNeg + (up σ 60 0 0) 67 y.toNatClampNeg + (up σ 60 0 0) 76 x.toNatClampNeg)))) 73 y.toNatClampNeg ((up σ 60 0 0) 73 y.toNatClampNeg + 1)) 75 y.toNatClampNeg ((up σ 60 0 0) 75 y.toNatClampNeg ||| ((1 : Int32) <<< (x &&& 31)))))) ∧ (¬ (cd2 ((0 ≤ x ∧ x ≤ 3) ∧ (0 ≤ y ∧ y < nI nr)) (σ 69 y.toNatClampNeg = 0 ∧ (σ 75 y.toNatClampNeg >>> (x &&& 31)) &&& 1 = 0 ∧ σ 73 y.toNatClampNeg < 3)) = 0 → r = 0 ∧ S1 = (T, ad, cO D ad (up σ 60 0 (cd2 ((0 ≤ x ∧ x ≤ 3) ∧ (0 ≤ y ∧ y < nI nr)) (σ 69 y.toNatClampNeg = 0 ∧ (σ 75 y.toNatClampNeg >>> (x &&& 31)) &&& 1 = 0 ∧ σ 73 y.toNatClampNeg < 3)))))) (nX) 0 0 := by
  refine KI_of (own := RX6) (L0 := [some (.ref (ad 400)), some (.int x), some (.int y), none, none]) (by decide +kernel) rfl (catc rfl (catc rfl (catc rfl cat0))) (Nat.le_of_ble_eq_true rfl) rfl ?_
  intro p e s m args below meth c A hnm C
  have hS := hM
  obtain ⟨hm1, hm3, hm26, hm18, hnp, hnr, hng, hnb5, hb, hsc, hlc, hpa, hro, hof, hte⟩ := hM
  by_cases h_y : 0 ≤ y ∧ y < nI nr
  · obtain ⟨i, hi, rfl⟩ := ix_of (N := nr) (by omega) h_y
    rw [nI_clamp (by omega)]
    refine r_iload1 (pc := 0) C dX6_sort_0 ?_
    refine r_iconst (pc := 1) C (v := 0) dX6_sort_1 (by decide) ?_
    refine r_iconst (pc := 2) C (v := 3) dX6_sort_2 (by decide) ?_
    refine kX6_114 (pc := 3) C (c_X6_in l D _ _ _ _) dX6_sort_3 (Nat.le_of_ble_eq_true rfl) (by decide) ?_
    rintro _ _ ⟨rfl, rfl⟩
    refine r_if_eq_b (pc := 6) C (tgt := 21) dX6_sort_6 (by decide) (fun c_6 => ?_) (fun c_6 => ?_)
    · refine r_iconst (pc := 21) C (v := 0) dX6_sort_21 (by decide) ?_
      refine r_istore3 (pc := 22) C dX6_sort_22 ?_
      refine r_aload0 (pc := 23) C dX6_sort_23 ?_
      refine r_iload3 (pc := 24) C dX6_sort_24 ?_
      refine r_iload3 (pc := 25) C dX6_sort_25 ?_
      refine r_if_eq (pc := 26) C (tgt := 65) dX6_sort_26 (by decide) (fun c_26 => ?_) (fun c_26 => ?_)
      · refine r_iconst (pc := 65) C (v := 0) dX6_sort_65 (by decide) ?_
        refine kX6_124 (pc := 66) C (ask2 l D _ _ _ hT ((0 ≤ x ∧ x ≤ 3) ∧ (0 ≤ (nI i) ∧ (nI i) < nI nr)) (σ 69 i = 0 ∧ (σ 75 i >>> (x &&& 31)) &&& 1 = 0 ∧ σ 73 i < 3) (by first | rfl | exact (bI_t (by with_reducible assumption)).symm | exact (bI_f (by with_reducible assumption)).symm | exact bI_c (by grind) | exact (bI_t (by grind)).symm | exact (bI_f (by grind)).symm) (fun hP0 => by first | rfl | exact absurd hP0 (by with_reducible assumption) | (obtain ⟨hp1, hp2⟩ := hP0; first | exact absurd hp1 (by with_reducible assumption) | exact absurd hp2 (by with_reducible assumption)) | exact (bI_t (by with_reducible assumption)).symm | exact (bI_f (by with_reducible assumption)).symm | exact bI_c (by grind) | exact (bI_t (by grind)).symm | exact (bI_f (by grind)).symm)) (hT.f (by decide)) rfl dX6_sort_66 (Nat.le_of_ble_eq_true rfl) (by decide) ?_
        rintro _ _ ⟨rfl, rfl⟩
        refine r_if_ne_b (pc := 69) C (tgt := 74) dX6_sort_69 (by decide) (fun c_69 => ?_) (fun c_69 => ?_)
        · have hok : (cd2 ((0 ≤ x ∧ x ≤ 3) ∧ (0 ≤ (nI i) ∧ (nI i) < nI nr)) (σ 69 i = 0 ∧ (σ 75 i >>> (x &&& 31)) &&& 1 = 0 ∧ σ 73 i < 3)) = 0 := cd2_t c_69
          rw [hok]
          obtain ⟨τ, hτ⟩ : ∃ τ, up σ 60 0 0 = τ := ⟨_, rfl⟩
          rw [hτ]
          obtain ⟨hm1, hm3, hm26, hm18, hnp, hnr, hng, hnb5, hb, hsc, hlc, hpa, hro, hof, hte⟩ := (hτ ▸ ML_up 0 hS : ML nr ng np nb τ)
          obtain ⟨hP, hQ⟩ := c_69
          obtain ⟨hP1, hP2⟩ := hP
          obtain ⟨j, hj, rfl⟩ := ul_s (n := 3) (by omega) hP1
          rw [nI_clamp (by omega)]
          obtain ⟨c3, hc3, hce⟩ := hsc i hi
          have hq3 : τ 73 i < 3 := by rw [← hτ]; exact hQ.2.2
          have hc4 : c3 < 3 := by rw [hce] at hq3; exact (nI_ltI (by omega) (by decide)).mp hq3
          rw [show (τ 73 i).toNatClampNeg = c3 by rw [hce, nI_clamp (by omega)]]
          refine r_aload0 (pc := 74) C dX6_sort_74 ?_
          refine gX6_19 (pc := 75) C hT dX6_sort_75 ?_
          refine r_iload2 (pc := 78) C dX6_sort_78 ?_
          refine a406 (pc := 79) C hT rfl (by omega) dX6_sort_79 ?_
          refine r_aload0 (pc := 80) C dX6_sort_80 ?_
          refine gX6_22 (pc := 81) C hT dX6_sort_81 ?_
          refine r_iload2 (pc := 84) C dX6_sort_84 ?_
          refine a407 (pc := 85) C hT rfl (by omega) dX6_sort_85 ?_
          refine r_iadd (pc := 86) C dX6_sort_86 ?_
          refine r_aload0 (pc := 87) C dX6_sort_87 ?_
          refine gX6_49 (pc := 88) C hT dX6_sort_88 ?_
          refine r_iload1 (pc := 91) C dX6_sort_91 ?_
          refine a416 (pc := 92) C hT rfl (by omega) dX6_sort_92 ?_
          refine r_iadd (pc := 93) C dX6_sort_93 ?_
          refine r_bipush (pc := 94) C (v := 18) dX6_sort_94 (by decide) ?_
          refine kX6_135 (pc := 96) C (c_X6_within l D _ _ _ (by decide)) dX6_sort_96 (Nat.le_of_ble_eq_true rfl) (by decide) ?_
          rintro _ _ ⟨rfl, rfl⟩
          refine r_istore4 (pc := 99) C dX6_sort_99 ?_
          refine r_aload0 (pc := 101) C dX6_sort_101 ?_
          refine gX6_43 (pc := 102) C hT dX6_sort_102 ?_
          refine r_iconst (pc := 105) C (v := 3) dX6_sort_105 (by decide) ?_
          refine r_iload2 (pc := 106) C dX6_sort_106 ?_
          refine r_imul (pc := 107) C dX6_sort_107 ?_
          refine r_aload0 (pc := 108) C dX6_sort_108 ?_
          refine gX6_40 (pc := 109) C hT dX6_sort_109 ?_
          refine r_iload2 (pc := 112) C dX6_sort_112 ?_
          refine a413 (pc := 113) C hT rfl (by omega) dX6_sort_113 ?_
          refine r_iadd (pc := 114) C dX6_sort_114 ?_
          refine r_iload4 (pc := 115) C dX6_sort_115 ?_
          refine b414 (pc := 117) C hT (show (3 : Int32) * nI i + τ 73 i = nI (3 * i + c3) by rw [hce]; exact ix3n i c3) (by omega) dX6_sort_117 ?_
          refine r_aload0 (pc := 118) C dX6_sort_118 ?_
          refine gX6_40 (pc := 119) C hT dX6_sort_119 ?_
          refine r_iload2 (pc := 122) C dX6_sort_122 ?_
          refine r_dup2 (pc := 123) C dX6_sort_123 rfl rfl ?_
          refine a413 (pc := 124) C hT rfl (by omega) dX6_sort_124 ?_
          rw [show (up τ 74 (3 * i + c3) (mxI 0 (mnI 18 (τ 66 i + τ 67 i + τ 76 j)))) 73 i = τ 73 i from rfl]
          refine r_iconst (pc := 125) C (v := 1) dX6_sort_125 (by decide) ?_
          refine r_iadd (pc := 126) C dX6_sort_126 ?_
          refine b413 (pc := 127) C hT rfl (by omega) dX6_sort_127 ?_
          refine r_aload0 (pc := 128) C dX6_sort_128 ?_
          refine gX6_46 (pc := 129) C hT dX6_sort_129 ?_
          refine r_iload2 (pc := 132) C dX6_sort_132 ?_
          refine r_dup2 (pc := 133) C dX6_sort_133 rfl rfl ?_
          refine a415 (pc := 134) C hT rfl (by omega) dX6_sort_134 ?_
          rw [show (up (up τ 74 (3 * i + c3) (mxI 0 (mnI 18 (τ 66 i + τ 67 i + τ 76 j)))) 73 i (τ 73 i + 1)) 75 i = τ 75 i from rfl]
          refine r_iconst (pc := 135) C (v := 1) dX6_sort_135 (by decide) ?_
          refine r_iload1 (pc := 136) C dX6_sort_136 ?_
          refine r_ishl (pc := 137) C dX6_sort_137 ?_
          refine r_ior (pc := 138) C dX6_sort_138 ?_
          refine b415 (pc := 139) C hT rfl (by omega) dX6_sort_139 ?_
          refine r_iload4 (pc := 140) C dX6_sort_140 ?_
          exact r_iret C rfl dX6_sort_142 (by first | exact ⟨fun q => absurd q hno, fun _ => ⟨rfl, rfl⟩⟩ | exact ⟨fun _ => ⟨rfl, rfl⟩, fun q => absurd rfl q⟩) (by decide) (by decide)
        · have hno : ¬ (cd2 ((0 ≤ x ∧ x ≤ 3) ∧ (0 ≤ (nI i) ∧ (nI i) < nI nr)) (σ 69 i = 0 ∧ (σ 75 i >>> (x &&& 31)) &&& 1 = 0 ∧ σ 73 i < 3)) = 0 := cd2_f (by assumption)
          refine r_iconst (pc := 72) C (v := 0) dX6_sort_72 (by decide) ?_
          exact r_iret C rfl dX6_sort_73 (by first | exact ⟨fun q => absurd q hno, fun _ => ⟨rfl, rfl⟩⟩ | exact ⟨fun _ => ⟨rfl, rfl⟩, fun q => absurd rfl q⟩) (by decide) (by decide)
      · refine r_aload0 (pc := 29) C dX6_sort_29 ?_
        refine gX6_28 (pc := 30) C hT dX6_sort_30 ?_
        refine r_iload2 (pc := 33) C dX6_sort_33 ?_
        refine a409 (pc := 34) C hT rfl (by omega) dX6_sort_34 ?_
        refine r_if_ne (pc := 35) C (tgt := 65) dX6_sort_35 (by decide) (fun c_35 => ?_) (fun c_35 => ?_)
        · refine r_iconst (pc := 65) C (v := 0) dX6_sort_65 (by decide) ?_
          refine kX6_124 (pc := 66) C (ask2 l D _ _ _ hT ((0 ≤ x ∧ x ≤ 3) ∧ (0 ≤ (nI i) ∧ (nI i) < nI nr)) (σ 69 i = 0 ∧ (σ 75 i >>> (x &&& 31)) &&& 1 = 0 ∧ σ 73 i < 3) (by first | rfl | exact (bI_t (by with_reducible assumption)).symm | exact (bI_f (by with_reducible assumption)).symm | exact bI_c (by grind) | exact (bI_t (by grind)).symm | exact (bI_f (by grind)).symm) (fun hP0 => by first | rfl | exact absurd hP0 (by with_reducible assumption) | (obtain ⟨hp1, hp2⟩ := hP0; first | exact absurd hp1 (by with_reducible assumption) | exact absurd hp2 (by with_reducible assumption)) | exact (bI_t (by with_reducible assumption)).symm | exact (bI_f (by with_reducible assumption)).symm | exact bI_c (by grind) | exact (bI_t (by grind)).symm | exact (bI_f (by grind)).symm)) (hT.f (by decide)) rfl dX6_sort_66 (Nat.le_of_ble_eq_true rfl) (by decide) ?_
          rintro _ _ ⟨rfl, rfl⟩
          refine r_if_ne_b (pc := 69) C (tgt := 74) dX6_sort_69 (by decide) (fun c_69 => ?_) (fun c_69 => ?_)
          · have hok : (cd2 ((0 ≤ x ∧ x ≤ 3) ∧ (0 ≤ (nI i) ∧ (nI i) < nI nr)) (σ 69 i = 0 ∧ (σ 75 i >>> (x &&& 31)) &&& 1 = 0 ∧ σ 73 i < 3)) = 0 := cd2_t c_69
            rw [hok]
            obtain ⟨τ, hτ⟩ : ∃ τ, up σ 60 0 0 = τ := ⟨_, rfl⟩
            rw [hτ]
            obtain ⟨hm1, hm3, hm26, hm18, hnp, hnr, hng, hnb5, hb, hsc, hlc, hpa, hro, hof, hte⟩ := (hτ ▸ ML_up 0 hS : ML nr ng np nb τ)
            obtain ⟨hP, hQ⟩ := c_69
            obtain ⟨hP1, hP2⟩ := hP
            obtain ⟨j, hj, rfl⟩ := ul_s (n := 3) (by omega) hP1
            rw [nI_clamp (by omega)]
            obtain ⟨c3, hc3, hce⟩ := hsc i hi
            have hq3 : τ 73 i < 3 := by rw [← hτ]; exact hQ.2.2
            have hc4 : c3 < 3 := by rw [hce] at hq3; exact (nI_ltI (by omega) (by decide)).mp hq3
            rw [show (τ 73 i).toNatClampNeg = c3 by rw [hce, nI_clamp (by omega)]]
            refine r_aload0 (pc := 74) C dX6_sort_74 ?_
            refine gX6_19 (pc := 75) C hT dX6_sort_75 ?_
            refine r_iload2 (pc := 78) C dX6_sort_78 ?_
            refine a406 (pc := 79) C hT rfl (by omega) dX6_sort_79 ?_
            refine r_aload0 (pc := 80) C dX6_sort_80 ?_
            refine gX6_22 (pc := 81) C hT dX6_sort_81 ?_
            refine r_iload2 (pc := 84) C dX6_sort_84 ?_
            refine a407 (pc := 85) C hT rfl (by omega) dX6_sort_85 ?_
            refine r_iadd (pc := 86) C dX6_sort_86 ?_
            refine r_aload0 (pc := 87) C dX6_sort_87 ?_
            refine gX6_49 (pc := 88) C hT dX6_sort_88 ?_
            refine r_iload1 (pc := 91) C dX6_sort_91 ?_
            refine a416 (pc := 92) C hT rfl (by omega) dX6_sort_92 ?_
            refine r_iadd (pc := 93) C dX6_sort_93 ?_
            refine r_bipush (pc := 94) C (v := 18) dX6_sort_94 (by decide) ?_
            refine kX6_135 (pc := 96) C (c_X6_within l D _ _ _ (by decide)) dX6_sort_96 (Nat.le_of_ble_eq_true rfl) (by decide) ?_
            rintro _ _ ⟨rfl, rfl⟩
            refine r_istore4 (pc := 99) C dX6_sort_99 ?_
            refine r_aload0 (pc := 101) C dX6_sort_101 ?_
            refine gX6_43 (pc := 102) C hT dX6_sort_102 ?_
            refine r_iconst (pc := 105) C (v := 3) dX6_sort_105 (by decide) ?_
            refine r_iload2 (pc := 106) C dX6_sort_106 ?_
            refine r_imul (pc := 107) C dX6_sort_107 ?_
            refine r_aload0 (pc := 108) C dX6_sort_108 ?_
            refine gX6_40 (pc := 109) C hT dX6_sort_109 ?_
            refine r_iload2 (pc := 112) C dX6_sort_112 ?_
            refine a413 (pc := 113) C hT rfl (by omega) dX6_sort_113 ?_
            refine r_iadd (pc := 114) C dX6_sort_114 ?_
            refine r_iload4 (pc := 115) C dX6_sort_115 ?_
            refine b414 (pc := 117) C hT (show (3 : Int32) * nI i + τ 73 i = nI (3 * i + c3) by rw [hce]; exact ix3n i c3) (by omega) dX6_sort_117 ?_
            refine r_aload0 (pc := 118) C dX6_sort_118 ?_
            refine gX6_40 (pc := 119) C hT dX6_sort_119 ?_
            refine r_iload2 (pc := 122) C dX6_sort_122 ?_
            refine r_dup2 (pc := 123) C dX6_sort_123 rfl rfl ?_
            refine a413 (pc := 124) C hT rfl (by omega) dX6_sort_124 ?_
            rw [show (up τ 74 (3 * i + c3) (mxI 0 (mnI 18 (τ 66 i + τ 67 i + τ 76 j)))) 73 i = τ 73 i from rfl]
            refine r_iconst (pc := 125) C (v := 1) dX6_sort_125 (by decide) ?_
            refine r_iadd (pc := 126) C dX6_sort_126 ?_
            refine b413 (pc := 127) C hT rfl (by omega) dX6_sort_127 ?_
            refine r_aload0 (pc := 128) C dX6_sort_128 ?_
            refine gX6_46 (pc := 129) C hT dX6_sort_129 ?_
            refine r_iload2 (pc := 132) C dX6_sort_132 ?_
            refine r_dup2 (pc := 133) C dX6_sort_133 rfl rfl ?_
            refine a415 (pc := 134) C hT rfl (by omega) dX6_sort_134 ?_
            rw [show (up (up τ 74 (3 * i + c3) (mxI 0 (mnI 18 (τ 66 i + τ 67 i + τ 76 j)))) 73 i (τ 73 i + 1)) 75 i = τ 75 i from rfl]
            refine r_iconst (pc := 135) C (v := 1) dX6_sort_135 (by decide) ?_
            refine r_iload1 (pc := 136) C dX6_sort_136 ?_
            refine r_ishl (pc := 137) C dX6_sort_137 ?_
            refine r_ior (pc := 138) C dX6_sort_138 ?_
            refine b415 (pc := 139) C hT rfl (by omega) dX6_sort_139 ?_
            refine r_iload4 (pc := 140) C dX6_sort_140 ?_
            exact r_iret C rfl dX6_sort_142 (by first | exact ⟨fun q => absurd q hno, fun _ => ⟨rfl, rfl⟩⟩ | exact ⟨fun _ => ⟨rfl, rfl⟩, fun q => absurd rfl q⟩) (by decide) (by decide)
          · have hno : ¬ (cd2 ((0 ≤ x ∧ x ≤ 3) ∧ (0 ≤ (nI i) ∧ (nI i) < nI nr)) (σ 69 i = 0 ∧ (σ 75 i >>> (x &&& 31)) &&& 1 = 0 ∧ σ 73 i < 3)) = 0 := cd2_f (by assumption)
            refine r_iconst (pc := 72) C (v := 0) dX6_sort_72 (by decide) ?_
            exact r_iret C rfl dX6_sort_73 (by first | exact ⟨fun q => absurd q hno, fun _ => ⟨rfl, rfl⟩⟩ | exact ⟨fun _ => ⟨rfl, rfl⟩, fun q => absurd rfl q⟩) (by decide) (by decide)
        · refine r_aload0 (pc := 38) C dX6_sort_38 ?_
          refine gX6_46 (pc := 39) C hT dX6_sort_39 ?_
          refine r_iload2 (pc := 42) C dX6_sort_42 ?_
          refine a415 (pc := 43) C hT rfl (by omega) dX6_sort_43 ?_
          refine r_iload1 (pc := 44) C dX6_sort_44 ?_
          refine r_ishr (pc := 45) C dX6_sort_45 ?_
          refine r_iconst (pc := 46) C (v := 1) dX6_sort_46 (by decide) ?_
          refine r_iand (pc := 47) C dX6_sort_47 ?_
          refine r_if_ne (pc := 48) C (tgt := 65) dX6_sort_48 (by decide) (fun c_48 => ?_) (fun c_48 => ?_)
          · refine r_iconst (pc := 65) C (v := 0) dX6_sort_65 (by decide) ?_
            refine kX6_124 (pc := 66) C (ask2 l D _ _ _ hT ((0 ≤ x ∧ x ≤ 3) ∧ (0 ≤ (nI i) ∧ (nI i) < nI nr)) (σ 69 i = 0 ∧ (σ 75 i >>> (x &&& 31)) &&& 1 = 0 ∧ σ 73 i < 3) (by first | rfl | exact (bI_t (by with_reducible assumption)).symm | exact (bI_f (by with_reducible assumption)).symm | exact bI_c (by grind) | exact (bI_t (by grind)).symm | exact (bI_f (by grind)).symm) (fun hP0 => by first | rfl | exact absurd hP0 (by with_reducible assumption) | (obtain ⟨hp1, hp2⟩ := hP0; first | exact absurd hp1 (by with_reducible assumption) | exact absurd hp2 (by with_reducible assumption)) | exact (bI_t (by with_reducible assumption)).symm | exact (bI_f (by with_reducible assumption)).symm | exact bI_c (by grind) | exact (bI_t (by grind)).symm | exact (bI_f (by grind)).symm)) (hT.f (by decide)) rfl dX6_sort_66 (Nat.le_of_ble_eq_true rfl) (by decide) ?_
            rintro _ _ ⟨rfl, rfl⟩
            refine r_if_ne_b (pc := 69) C (tgt := 74) dX6_sort_69 (by decide) (fun c_69 => ?_) (fun c_69 => ?_)
            · have hok : (cd2 ((0 ≤ x ∧ x ≤ 3) ∧ (0 ≤ (nI i) ∧ (nI i) < nI nr)) (σ 69 i = 0 ∧ (σ 75 i >>> (x &&& 31)) &&& 1 = 0 ∧ σ 73 i < 3)) = 0 := cd2_t c_69
              rw [hok]
              obtain ⟨τ, hτ⟩ : ∃ τ, up σ 60 0 0 = τ := ⟨_, rfl⟩
              rw [hτ]
              obtain ⟨hm1, hm3, hm26, hm18, hnp, hnr, hng, hnb5, hb, hsc, hlc, hpa, hro, hof, hte⟩ := (hτ ▸ ML_up 0 hS : ML nr ng np nb τ)
              obtain ⟨hP, hQ⟩ := c_69
              obtain ⟨hP1, hP2⟩ := hP
              obtain ⟨j, hj, rfl⟩ := ul_s (n := 3) (by omega) hP1
              rw [nI_clamp (by omega)]
              obtain ⟨c3, hc3, hce⟩ := hsc i hi
              have hq3 : τ 73 i < 3 := by rw [← hτ]; exact hQ.2.2
              have hc4 : c3 < 3 := by rw [hce] at hq3; exact (nI_ltI (by omega) (by decide)).mp hq3
              rw [show (τ 73 i).toNatClampNeg = c3 by rw [hce, nI_clamp (by omega)]]
              refine r_aload0 (pc := 74) C dX6_sort_74 ?_
              refine gX6_19 (pc := 75) C hT dX6_sort_75 ?_
              refine r_iload2 (pc := 78) C dX6_sort_78 ?_
              refine a406 (pc := 79) C hT rfl (by omega) dX6_sort_79 ?_
              refine r_aload0 (pc := 80) C dX6_sort_80 ?_
              refine gX6_22 (pc := 81) C hT dX6_sort_81 ?_
              refine r_iload2 (pc := 84) C dX6_sort_84 ?_
              refine a407 (pc := 85) C hT rfl (by omega) dX6_sort_85 ?_
              refine r_iadd (pc := 86) C dX6_sort_86 ?_
              refine r_aload0 (pc := 87) C dX6_sort_87 ?_
              refine gX6_49 (pc := 88) C hT dX6_sort_88 ?_
              refine r_iload1 (pc := 91) C dX6_sort_91 ?_
              refine a416 (pc := 92) C hT rfl (by omega) dX6_sort_92 ?_
              refine r_iadd (pc := 93) C dX6_sort_93 ?_
              refine r_bipush (pc := 94) C (v := 18) dX6_sort_94 (by decide) ?_
              refine kX6_135 (pc := 96) C (c_X6_within l D _ _ _ (by decide)) dX6_sort_96 (Nat.le_of_ble_eq_true rfl) (by decide) ?_
              rintro _ _ ⟨rfl, rfl⟩
              refine r_istore4 (pc := 99) C dX6_sort_99 ?_
              refine r_aload0 (pc := 101) C dX6_sort_101 ?_
              refine gX6_43 (pc := 102) C hT dX6_sort_102 ?_
              refine r_iconst (pc := 105) C (v := 3) dX6_sort_105 (by decide) ?_
              refine r_iload2 (pc := 106) C dX6_sort_106 ?_
              refine r_imul (pc := 107) C dX6_sort_107 ?_
              refine r_aload0 (pc := 108) C dX6_sort_108 ?_
              refine gX6_40 (pc := 109) C hT dX6_sort_109 ?_
              refine r_iload2 (pc := 112) C dX6_sort_112 ?_
              refine a413 (pc := 113) C hT rfl (by omega) dX6_sort_113 ?_
              refine r_iadd (pc := 114) C dX6_sort_114 ?_
              refine r_iload4 (pc := 115) C dX6_sort_115 ?_
              refine b414 (pc := 117) C hT (show (3 : Int32) * nI i + τ 73 i = nI (3 * i + c3) by rw [hce]; exact ix3n i c3) (by omega) dX6_sort_117 ?_
              refine r_aload0 (pc := 118) C dX6_sort_118 ?_
              refine gX6_40 (pc := 119) C hT dX6_sort_119 ?_
              refine r_iload2 (pc := 122) C dX6_sort_122 ?_
              refine r_dup2 (pc := 123) C dX6_sort_123 rfl rfl ?_
              refine a413 (pc := 124) C hT rfl (by omega) dX6_sort_124 ?_
              rw [show (up τ 74 (3 * i + c3) (mxI 0 (mnI 18 (τ 66 i + τ 67 i + τ 76 j)))) 73 i = τ 73 i from rfl]
              refine r_iconst (pc := 125) C (v := 1) dX6_sort_125 (by decide) ?_
              refine r_iadd (pc := 126) C dX6_sort_126 ?_
              refine b413 (pc := 127) C hT rfl (by omega) dX6_sort_127 ?_
              refine r_aload0 (pc := 128) C dX6_sort_128 ?_
              refine gX6_46 (pc := 129) C hT dX6_sort_129 ?_
              refine r_iload2 (pc := 132) C dX6_sort_132 ?_
              refine r_dup2 (pc := 133) C dX6_sort_133 rfl rfl ?_
              refine a415 (pc := 134) C hT rfl (by omega) dX6_sort_134 ?_
              rw [show (up (up τ 74 (3 * i + c3) (mxI 0 (mnI 18 (τ 66 i + τ 67 i + τ 76 j)))) 73 i (τ 73 i + 1)) 75 i = τ 75 i from rfl]
              refine r_iconst (pc := 135) C (v := 1) dX6_sort_135 (by decide) ?_
              refine r_iload1 (pc := 136) C dX6_sort_136 ?_
              refine r_ishl (pc := 137) C dX6_sort_137 ?_
              refine r_ior (pc := 138) C dX6_sort_138 ?_
              refine b415 (pc := 139) C hT rfl (by omega) dX6_sort_139 ?_
              refine r_iload4 (pc := 140) C dX6_sort_140 ?_
              exact r_iret C rfl dX6_sort_142 (by first | exact ⟨fun q => absurd q hno, fun _ => ⟨rfl, rfl⟩⟩ | exact ⟨fun _ => ⟨rfl, rfl⟩, fun q => absurd rfl q⟩) (by decide) (by decide)
            · have hno : ¬ (cd2 ((0 ≤ x ∧ x ≤ 3) ∧ (0 ≤ (nI i) ∧ (nI i) < nI nr)) (σ 69 i = 0 ∧ (σ 75 i >>> (x &&& 31)) &&& 1 = 0 ∧ σ 73 i < 3)) = 0 := cd2_f (by assumption)
              refine r_iconst (pc := 72) C (v := 0) dX6_sort_72 (by decide) ?_
              exact r_iret C rfl dX6_sort_73 (by first | exact ⟨fun q => absurd q hno, fun _ => ⟨rfl, rfl⟩⟩ | exact ⟨fun _ => ⟨rfl, rfl⟩, fun q => absurd rfl q⟩) (by decide) (by decide)
          · refine r_aload0 (pc := 51) C dX6_sort_51 ?_
            refine gX6_40 (pc := 52) C hT dX6_sort_52 ?_
            refine r_iload2 (pc := 55) C dX6_sort_55 ?_
            refine a413 (pc := 56) C hT rfl (by omega) dX6_sort_56 ?_
            refine r_iconst (pc := 57) C (v := 3) dX6_sort_57 (by decide) ?_
            refine r_icmp_ge (pc := 58) C (tgt := 65) dX6_sort_58 (by decide) (fun c_58 => ?_) (fun c_58 => ?_)
            · refine r_iconst (pc := 65) C (v := 0) dX6_sort_65 (by decide) ?_
              refine kX6_124 (pc := 66) C (ask2 l D _ _ _ hT ((0 ≤ x ∧ x ≤ 3) ∧ (0 ≤ (nI i) ∧ (nI i) < nI nr)) (σ 69 i = 0 ∧ (σ 75 i >>> (x &&& 31)) &&& 1 = 0 ∧ σ 73 i < 3) (by first | rfl | exact (bI_t (by with_reducible assumption)).symm | exact (bI_f (by with_reducible assumption)).symm | exact bI_c (by grind) | exact (bI_t (by grind)).symm | exact (bI_f (by grind)).symm) (fun hP0 => by first | rfl | exact absurd hP0 (by with_reducible assumption) | (obtain ⟨hp1, hp2⟩ := hP0; first | exact absurd hp1 (by with_reducible assumption) | exact absurd hp2 (by with_reducible assumption)) | exact (bI_t (by with_reducible assumption)).symm | exact (bI_f (by with_reducible assumption)).symm | exact bI_c (by grind) | exact (bI_t (by grind)).symm | exact (bI_f (by grind)).symm)) (hT.f (by decide)) rfl dX6_sort_66 (Nat.le_of_ble_eq_true rfl) (by decide) ?_
              rintro _ _ ⟨rfl, rfl⟩
              refine r_if_ne_b (pc := 69) C (tgt := 74) dX6_sort_69 (by decide) (fun c_69 => ?_) (fun c_69 => ?_)
              · have hok : (cd2 ((0 ≤ x ∧ x ≤ 3) ∧ (0 ≤ (nI i) ∧ (nI i) < nI nr)) (σ 69 i = 0 ∧ (σ 75 i >>> (x &&& 31)) &&& 1 = 0 ∧ σ 73 i < 3)) = 0 := cd2_t c_69
                rw [hok]
                obtain ⟨τ, hτ⟩ : ∃ τ, up σ 60 0 0 = τ := ⟨_, rfl⟩
                rw [hτ]
                obtain ⟨hm1, hm3, hm26, hm18, hnp, hnr, hng, hnb5, hb, hsc, hlc, hpa, hro, hof, hte⟩ := (hτ ▸ ML_up 0 hS : ML nr ng np nb τ)
                obtain ⟨hP, hQ⟩ := c_69
                obtain ⟨hP1, hP2⟩ := hP
                obtain ⟨j, hj, rfl⟩ := ul_s (n := 3) (by omega) hP1
                rw [nI_clamp (by omega)]
                obtain ⟨c3, hc3, hce⟩ := hsc i hi
                have hq3 : τ 73 i < 3 := by rw [← hτ]; exact hQ.2.2
                have hc4 : c3 < 3 := by rw [hce] at hq3; exact (nI_ltI (by omega) (by decide)).mp hq3
                rw [show (τ 73 i).toNatClampNeg = c3 by rw [hce, nI_clamp (by omega)]]
                refine r_aload0 (pc := 74) C dX6_sort_74 ?_
                refine gX6_19 (pc := 75) C hT dX6_sort_75 ?_
                refine r_iload2 (pc := 78) C dX6_sort_78 ?_
                refine a406 (pc := 79) C hT rfl (by omega) dX6_sort_79 ?_
                refine r_aload0 (pc := 80) C dX6_sort_80 ?_
                refine gX6_22 (pc := 81) C hT dX6_sort_81 ?_
                refine r_iload2 (pc := 84) C dX6_sort_84 ?_
                refine a407 (pc := 85) C hT rfl (by omega) dX6_sort_85 ?_
                refine r_iadd (pc := 86) C dX6_sort_86 ?_
                refine r_aload0 (pc := 87) C dX6_sort_87 ?_
                refine gX6_49 (pc := 88) C hT dX6_sort_88 ?_
                refine r_iload1 (pc := 91) C dX6_sort_91 ?_
                refine a416 (pc := 92) C hT rfl (by omega) dX6_sort_92 ?_
                refine r_iadd (pc := 93) C dX6_sort_93 ?_
                refine r_bipush (pc := 94) C (v := 18) dX6_sort_94 (by decide) ?_
                refine kX6_135 (pc := 96) C (c_X6_within l D _ _ _ (by decide)) dX6_sort_96 (Nat.le_of_ble_eq_true rfl) (by decide) ?_
                rintro _ _ ⟨rfl, rfl⟩
                refine r_istore4 (pc := 99) C dX6_sort_99 ?_
                refine r_aload0 (pc := 101) C dX6_sort_101 ?_
                refine gX6_43 (pc := 102) C hT dX6_sort_102 ?_
                refine r_iconst (pc := 105) C (v := 3) dX6_sort_105 (by decide) ?_
                refine r_iload2 (pc := 106) C dX6_sort_106 ?_
                refine r_imul (pc := 107) C dX6_sort_107 ?_
                refine r_aload0 (pc := 108) C dX6_sort_108 ?_
                refine gX6_40 (pc := 109) C hT dX6_sort_109 ?_
                refine r_iload2 (pc := 112) C dX6_sort_112 ?_
                refine a413 (pc := 113) C hT rfl (by omega) dX6_sort_113 ?_
                refine r_iadd (pc := 114) C dX6_sort_114 ?_
                refine r_iload4 (pc := 115) C dX6_sort_115 ?_
                refine b414 (pc := 117) C hT (show (3 : Int32) * nI i + τ 73 i = nI (3 * i + c3) by rw [hce]; exact ix3n i c3) (by omega) dX6_sort_117 ?_
                refine r_aload0 (pc := 118) C dX6_sort_118 ?_
                refine gX6_40 (pc := 119) C hT dX6_sort_119 ?_
                refine r_iload2 (pc := 122) C dX6_sort_122 ?_
                refine r_dup2 (pc := 123) C dX6_sort_123 rfl rfl ?_
                refine a413 (pc := 124) C hT rfl (by omega) dX6_sort_124 ?_
                rw [show (up τ 74 (3 * i + c3) (mxI 0 (mnI 18 (τ 66 i + τ 67 i + τ 76 j)))) 73 i = τ 73 i from rfl]
                refine r_iconst (pc := 125) C (v := 1) dX6_sort_125 (by decide) ?_
                refine r_iadd (pc := 126) C dX6_sort_126 ?_
                refine b413 (pc := 127) C hT rfl (by omega) dX6_sort_127 ?_
                refine r_aload0 (pc := 128) C dX6_sort_128 ?_
                refine gX6_46 (pc := 129) C hT dX6_sort_129 ?_
                refine r_iload2 (pc := 132) C dX6_sort_132 ?_
                refine r_dup2 (pc := 133) C dX6_sort_133 rfl rfl ?_
                refine a415 (pc := 134) C hT rfl (by omega) dX6_sort_134 ?_
                rw [show (up (up τ 74 (3 * i + c3) (mxI 0 (mnI 18 (τ 66 i + τ 67 i + τ 76 j)))) 73 i (τ 73 i + 1)) 75 i = τ 75 i from rfl]
                refine r_iconst (pc := 135) C (v := 1) dX6_sort_135 (by decide) ?_
                refine r_iload1 (pc := 136) C dX6_sort_136 ?_
                refine r_ishl (pc := 137) C dX6_sort_137 ?_
                refine r_ior (pc := 138) C dX6_sort_138 ?_
                refine b415 (pc := 139) C hT rfl (by omega) dX6_sort_139 ?_
                refine r_iload4 (pc := 140) C dX6_sort_140 ?_
                exact r_iret C rfl dX6_sort_142 (by first | exact ⟨fun q => absurd q hno, fun _ => ⟨rfl, rfl⟩⟩ | exact ⟨fun _ => ⟨rfl, rfl⟩, fun q => absurd rfl q⟩) (by decide) (by decide)
              · have hno : ¬ (cd2 ((0 ≤ x ∧ x ≤ 3) ∧ (0 ≤ (nI i) ∧ (nI i) < nI nr)) (σ 69 i = 0 ∧ (σ 75 i >>> (x &&& 31)) &&& 1 = 0 ∧ σ 73 i < 3)) = 0 := cd2_f (by assumption)
                refine r_iconst (pc := 72) C (v := 0) dX6_sort_72 (by decide) ?_
                exact r_iret C rfl dX6_sort_73 (by first | exact ⟨fun q => absurd q hno, fun _ => ⟨rfl, rfl⟩⟩ | exact ⟨fun _ => ⟨rfl, rfl⟩, fun q => absurd rfl q⟩) (by decide) (by decide)
            · refine r_iconst (pc := 61) C (v := 1) dX6_sort_61 (by decide) ?_
              refine r_goto (pc := 62) C (tgt := 66) dX6_sort_62 (by decide) ?_
              refine kX6_124 (pc := 66) C (ask2 l D _ _ _ hT ((0 ≤ x ∧ x ≤ 3) ∧ (0 ≤ (nI i) ∧ (nI i) < nI nr)) (σ 69 i = 0 ∧ (σ 75 i >>> (x &&& 31)) &&& 1 = 0 ∧ σ 73 i < 3) (by first | rfl | exact (bI_t (by with_reducible assumption)).symm | exact (bI_f (by with_reducible assumption)).symm | exact bI_c (by grind) | exact (bI_t (by grind)).symm | exact (bI_f (by grind)).symm) (fun hP0 => by first | rfl | exact absurd hP0 (by with_reducible assumption) | (obtain ⟨hp1, hp2⟩ := hP0; first | exact absurd hp1 (by with_reducible assumption) | exact absurd hp2 (by with_reducible assumption)) | exact (bI_t (by with_reducible assumption)).symm | exact (bI_f (by with_reducible assumption)).symm | exact bI_c (by grind) | exact (bI_t (by grind)).symm | exact (bI_f (by grind)).symm)) (hT.f (by decide)) rfl dX6_sort_66 (Nat.le_of_ble_eq_true rfl) (by decide) ?_
              rintro _ _ ⟨rfl, rfl⟩
              refine r_if_ne_b (pc := 69) C (tgt := 74) dX6_sort_69 (by decide) (fun c_69 => ?_) (fun c_69 => ?_)
              · have hok : (cd2 ((0 ≤ x ∧ x ≤ 3) ∧ (0 ≤ (nI i) ∧ (nI i) < nI nr)) (σ 69 i = 0 ∧ (σ 75 i >>> (x &&& 31)) &&& 1 = 0 ∧ σ 73 i < 3)) = 0 := cd2_t c_69
                rw [hok]
                obtain ⟨τ, hτ⟩ : ∃ τ, up σ 60 0 0 = τ := ⟨_, rfl⟩
                rw [hτ]
                obtain ⟨hm1, hm3, hm26, hm18, hnp, hnr, hng, hnb5, hb, hsc, hlc, hpa, hro, hof, hte⟩ := (hτ ▸ ML_up 0 hS : ML nr ng np nb τ)
                obtain ⟨hP, hQ⟩ := c_69
                obtain ⟨hP1, hP2⟩ := hP
                obtain ⟨j, hj, rfl⟩ := ul_s (n := 3) (by omega) hP1
                rw [nI_clamp (by omega)]
                obtain ⟨c3, hc3, hce⟩ := hsc i hi
                have hq3 : τ 73 i < 3 := by rw [← hτ]; exact hQ.2.2
                have hc4 : c3 < 3 := by rw [hce] at hq3; exact (nI_ltI (by omega) (by decide)).mp hq3
                rw [show (τ 73 i).toNatClampNeg = c3 by rw [hce, nI_clamp (by omega)]]
                refine r_aload0 (pc := 74) C dX6_sort_74 ?_
                refine gX6_19 (pc := 75) C hT dX6_sort_75 ?_
                refine r_iload2 (pc := 78) C dX6_sort_78 ?_
                refine a406 (pc := 79) C hT rfl (by omega) dX6_sort_79 ?_
                refine r_aload0 (pc := 80) C dX6_sort_80 ?_
                refine gX6_22 (pc := 81) C hT dX6_sort_81 ?_
                refine r_iload2 (pc := 84) C dX6_sort_84 ?_
                refine a407 (pc := 85) C hT rfl (by omega) dX6_sort_85 ?_
                refine r_iadd (pc := 86) C dX6_sort_86 ?_
                refine r_aload0 (pc := 87) C dX6_sort_87 ?_
                refine gX6_49 (pc := 88) C hT dX6_sort_88 ?_
                refine r_iload1 (pc := 91) C dX6_sort_91 ?_
                refine a416 (pc := 92) C hT rfl (by omega) dX6_sort_92 ?_
                refine r_iadd (pc := 93) C dX6_sort_93 ?_
                refine r_bipush (pc := 94) C (v := 18) dX6_sort_94 (by decide) ?_
                refine kX6_135 (pc := 96) C (c_X6_within l D _ _ _ (by decide)) dX6_sort_96 (Nat.le_of_ble_eq_true rfl) (by decide) ?_
                rintro _ _ ⟨rfl, rfl⟩
                refine r_istore4 (pc := 99) C dX6_sort_99 ?_
                refine r_aload0 (pc := 101) C dX6_sort_101 ?_
                refine gX6_43 (pc := 102) C hT dX6_sort_102 ?_
                refine r_iconst (pc := 105) C (v := 3) dX6_sort_105 (by decide) ?_
                refine r_iload2 (pc := 106) C dX6_sort_106 ?_
                refine r_imul (pc := 107) C dX6_sort_107 ?_
                refine r_aload0 (pc := 108) C dX6_sort_108 ?_
                refine gX6_40 (pc := 109) C hT dX6_sort_109 ?_
                refine r_iload2 (pc := 112) C dX6_sort_112 ?_
                refine a413 (pc := 113) C hT rfl (by omega) dX6_sort_113 ?_
                refine r_iadd (pc := 114) C dX6_sort_114 ?_
                refine r_iload4 (pc := 115) C dX6_sort_115 ?_
                refine b414 (pc := 117) C hT (show (3 : Int32) * nI i + τ 73 i = nI (3 * i + c3) by rw [hce]; exact ix3n i c3) (by omega) dX6_sort_117 ?_
                refine r_aload0 (pc := 118) C dX6_sort_118 ?_
                refine gX6_40 (pc := 119) C hT dX6_sort_119 ?_
                refine r_iload2 (pc := 122) C dX6_sort_122 ?_
                refine r_dup2 (pc := 123) C dX6_sort_123 rfl rfl ?_
                refine a413 (pc := 124) C hT rfl (by omega) dX6_sort_124 ?_
                rw [show (up τ 74 (3 * i + c3) (mxI 0 (mnI 18 (τ 66 i + τ 67 i + τ 76 j)))) 73 i = τ 73 i from rfl]
                refine r_iconst (pc := 125) C (v := 1) dX6_sort_125 (by decide) ?_
                refine r_iadd (pc := 126) C dX6_sort_126 ?_
                refine b413 (pc := 127) C hT rfl (by omega) dX6_sort_127 ?_
                refine r_aload0 (pc := 128) C dX6_sort_128 ?_
                refine gX6_46 (pc := 129) C hT dX6_sort_129 ?_
                refine r_iload2 (pc := 132) C dX6_sort_132 ?_
                refine r_dup2 (pc := 133) C dX6_sort_133 rfl rfl ?_
                refine a415 (pc := 134) C hT rfl (by omega) dX6_sort_134 ?_
                rw [show (up (up τ 74 (3 * i + c3) (mxI 0 (mnI 18 (τ 66 i + τ 67 i + τ 76 j)))) 73 i (τ 73 i + 1)) 75 i = τ 75 i from rfl]
                refine r_iconst (pc := 135) C (v := 1) dX6_sort_135 (by decide) ?_
                refine r_iload1 (pc := 136) C dX6_sort_136 ?_
                refine r_ishl (pc := 137) C dX6_sort_137 ?_
                refine r_ior (pc := 138) C dX6_sort_138 ?_
                refine b415 (pc := 139) C hT rfl (by omega) dX6_sort_139 ?_
                refine r_iload4 (pc := 140) C dX6_sort_140 ?_
                exact r_iret C rfl dX6_sort_142 (by first | exact ⟨fun q => absurd q hno, fun _ => ⟨rfl, rfl⟩⟩ | exact ⟨fun _ => ⟨rfl, rfl⟩, fun q => absurd rfl q⟩) (by decide) (by decide)
              · have hno : ¬ (cd2 ((0 ≤ x ∧ x ≤ 3) ∧ (0 ≤ (nI i) ∧ (nI i) < nI nr)) (σ 69 i = 0 ∧ (σ 75 i >>> (x &&& 31)) &&& 1 = 0 ∧ σ 73 i < 3)) = 0 := cd2_f (by assumption)
                refine r_iconst (pc := 72) C (v := 0) dX6_sort_72 (by decide) ?_
                exact r_iret C rfl dX6_sort_73 (by first | exact ⟨fun q => absurd q hno, fun _ => ⟨rfl, rfl⟩⟩ | exact ⟨fun _ => ⟨rfl, rfl⟩, fun q => absurd rfl q⟩) (by decide) (by decide)
    · refine r_aload0 (pc := 9) C dX6_sort_9 ?_
      refine r_iload2 (pc := 10) C dX6_sort_10 ?_
      refine kX6_131 (pc := 11) C (c_X6_isStone l D _ _ _ hT _ hm3) (hT.f (by decide)) rfl dX6_sort_11 (Nat.le_of_ble_eq_true rfl) (by decide) ?_
      rintro _ _ ⟨rfl, rfl⟩
      refine r_if_eq_b (pc := 14) C (tgt := 21) dX6_sort_14 (by decide) (fun c_14 => ?_) (fun c_14 => ?_)
      · refine r_iconst (pc := 21) C (v := 0) dX6_sort_21 (by decide) ?_
        refine r_istore3 (pc := 22) C dX6_sort_22 ?_
        refine r_aload0 (pc := 23) C dX6_sort_23 ?_
        refine r_iload3 (pc := 24) C dX6_sort_24 ?_
        refine r_iload3 (pc := 25) C dX6_sort_25 ?_
        refine r_if_eq (pc := 26) C (tgt := 65) dX6_sort_26 (by decide) (fun c_26 => ?_) (fun c_26 => ?_)
        · refine r_iconst (pc := 65) C (v := 0) dX6_sort_65 (by decide) ?_
          refine kX6_124 (pc := 66) C (ask2 l D _ _ _ hT ((0 ≤ x ∧ x ≤ 3) ∧ (0 ≤ (nI i) ∧ (nI i) < nI nr)) (σ 69 i = 0 ∧ (σ 75 i >>> (x &&& 31)) &&& 1 = 0 ∧ σ 73 i < 3) (by first | rfl | exact (bI_t (by with_reducible assumption)).symm | exact (bI_f (by with_reducible assumption)).symm | exact bI_c (by grind) | exact (bI_t (by grind)).symm | exact (bI_f (by grind)).symm) (fun hP0 => by first | rfl | exact absurd hP0 (by with_reducible assumption) | (obtain ⟨hp1, hp2⟩ := hP0; first | exact absurd hp1 (by with_reducible assumption) | exact absurd hp2 (by with_reducible assumption)) | exact (bI_t (by with_reducible assumption)).symm | exact (bI_f (by with_reducible assumption)).symm | exact bI_c (by grind) | exact (bI_t (by grind)).symm | exact (bI_f (by grind)).symm)) (hT.f (by decide)) rfl dX6_sort_66 (Nat.le_of_ble_eq_true rfl) (by decide) ?_
          rintro _ _ ⟨rfl, rfl⟩
          refine r_if_ne_b (pc := 69) C (tgt := 74) dX6_sort_69 (by decide) (fun c_69 => ?_) (fun c_69 => ?_)
          · have hok : (cd2 ((0 ≤ x ∧ x ≤ 3) ∧ (0 ≤ (nI i) ∧ (nI i) < nI nr)) (σ 69 i = 0 ∧ (σ 75 i >>> (x &&& 31)) &&& 1 = 0 ∧ σ 73 i < 3)) = 0 := cd2_t c_69
            rw [hok]
            obtain ⟨τ, hτ⟩ : ∃ τ, up σ 60 0 0 = τ := ⟨_, rfl⟩
            rw [hτ]
            obtain ⟨hm1, hm3, hm26, hm18, hnp, hnr, hng, hnb5, hb, hsc, hlc, hpa, hro, hof, hte⟩ := (hτ ▸ ML_up 0 hS : ML nr ng np nb τ)
            obtain ⟨hP, hQ⟩ := c_69
            obtain ⟨hP1, hP2⟩ := hP
            obtain ⟨j, hj, rfl⟩ := ul_s (n := 3) (by omega) hP1
            rw [nI_clamp (by omega)]
            obtain ⟨c3, hc3, hce⟩ := hsc i hi
            have hq3 : τ 73 i < 3 := by rw [← hτ]; exact hQ.2.2
            have hc4 : c3 < 3 := by rw [hce] at hq3; exact (nI_ltI (by omega) (by decide)).mp hq3
            rw [show (τ 73 i).toNatClampNeg = c3 by rw [hce, nI_clamp (by omega)]]
            refine r_aload0 (pc := 74) C dX6_sort_74 ?_
            refine gX6_19 (pc := 75) C hT dX6_sort_75 ?_
            refine r_iload2 (pc := 78) C dX6_sort_78 ?_
            refine a406 (pc := 79) C hT rfl (by omega) dX6_sort_79 ?_
            refine r_aload0 (pc := 80) C dX6_sort_80 ?_
            refine gX6_22 (pc := 81) C hT dX6_sort_81 ?_
            refine r_iload2 (pc := 84) C dX6_sort_84 ?_
            refine a407 (pc := 85) C hT rfl (by omega) dX6_sort_85 ?_
            refine r_iadd (pc := 86) C dX6_sort_86 ?_
            refine r_aload0 (pc := 87) C dX6_sort_87 ?_
            refine gX6_49 (pc := 88) C hT dX6_sort_88 ?_
            refine r_iload1 (pc := 91) C dX6_sort_91 ?_
            refine a416 (pc := 92) C hT rfl (by omega) dX6_sort_92 ?_
            refine r_iadd (pc := 93) C dX6_sort_93 ?_
            refine r_bipush (pc := 94) C (v := 18) dX6_sort_94 (by decide) ?_
            refine kX6_135 (pc := 96) C (c_X6_within l D _ _ _ (by decide)) dX6_sort_96 (Nat.le_of_ble_eq_true rfl) (by decide) ?_
            rintro _ _ ⟨rfl, rfl⟩
            refine r_istore4 (pc := 99) C dX6_sort_99 ?_
            refine r_aload0 (pc := 101) C dX6_sort_101 ?_
            refine gX6_43 (pc := 102) C hT dX6_sort_102 ?_
            refine r_iconst (pc := 105) C (v := 3) dX6_sort_105 (by decide) ?_
            refine r_iload2 (pc := 106) C dX6_sort_106 ?_
            refine r_imul (pc := 107) C dX6_sort_107 ?_
            refine r_aload0 (pc := 108) C dX6_sort_108 ?_
            refine gX6_40 (pc := 109) C hT dX6_sort_109 ?_
            refine r_iload2 (pc := 112) C dX6_sort_112 ?_
            refine a413 (pc := 113) C hT rfl (by omega) dX6_sort_113 ?_
            refine r_iadd (pc := 114) C dX6_sort_114 ?_
            refine r_iload4 (pc := 115) C dX6_sort_115 ?_
            refine b414 (pc := 117) C hT (show (3 : Int32) * nI i + τ 73 i = nI (3 * i + c3) by rw [hce]; exact ix3n i c3) (by omega) dX6_sort_117 ?_
            refine r_aload0 (pc := 118) C dX6_sort_118 ?_
            refine gX6_40 (pc := 119) C hT dX6_sort_119 ?_
            refine r_iload2 (pc := 122) C dX6_sort_122 ?_
            refine r_dup2 (pc := 123) C dX6_sort_123 rfl rfl ?_
            refine a413 (pc := 124) C hT rfl (by omega) dX6_sort_124 ?_
            rw [show (up τ 74 (3 * i + c3) (mxI 0 (mnI 18 (τ 66 i + τ 67 i + τ 76 j)))) 73 i = τ 73 i from rfl]
            refine r_iconst (pc := 125) C (v := 1) dX6_sort_125 (by decide) ?_
            refine r_iadd (pc := 126) C dX6_sort_126 ?_
            refine b413 (pc := 127) C hT rfl (by omega) dX6_sort_127 ?_
            refine r_aload0 (pc := 128) C dX6_sort_128 ?_
            refine gX6_46 (pc := 129) C hT dX6_sort_129 ?_
            refine r_iload2 (pc := 132) C dX6_sort_132 ?_
            refine r_dup2 (pc := 133) C dX6_sort_133 rfl rfl ?_
            refine a415 (pc := 134) C hT rfl (by omega) dX6_sort_134 ?_
            rw [show (up (up τ 74 (3 * i + c3) (mxI 0 (mnI 18 (τ 66 i + τ 67 i + τ 76 j)))) 73 i (τ 73 i + 1)) 75 i = τ 75 i from rfl]
            refine r_iconst (pc := 135) C (v := 1) dX6_sort_135 (by decide) ?_
            refine r_iload1 (pc := 136) C dX6_sort_136 ?_
            refine r_ishl (pc := 137) C dX6_sort_137 ?_
            refine r_ior (pc := 138) C dX6_sort_138 ?_
            refine b415 (pc := 139) C hT rfl (by omega) dX6_sort_139 ?_
            refine r_iload4 (pc := 140) C dX6_sort_140 ?_
            exact r_iret C rfl dX6_sort_142 (by first | exact ⟨fun q => absurd q hno, fun _ => ⟨rfl, rfl⟩⟩ | exact ⟨fun _ => ⟨rfl, rfl⟩, fun q => absurd rfl q⟩) (by decide) (by decide)
          · have hno : ¬ (cd2 ((0 ≤ x ∧ x ≤ 3) ∧ (0 ≤ (nI i) ∧ (nI i) < nI nr)) (σ 69 i = 0 ∧ (σ 75 i >>> (x &&& 31)) &&& 1 = 0 ∧ σ 73 i < 3)) = 0 := cd2_f (by assumption)
            refine r_iconst (pc := 72) C (v := 0) dX6_sort_72 (by decide) ?_
            exact r_iret C rfl dX6_sort_73 (by first | exact ⟨fun q => absurd q hno, fun _ => ⟨rfl, rfl⟩⟩ | exact ⟨fun _ => ⟨rfl, rfl⟩, fun q => absurd rfl q⟩) (by decide) (by decide)
        · refine r_aload0 (pc := 29) C dX6_sort_29 ?_
          refine gX6_28 (pc := 30) C hT dX6_sort_30 ?_
          refine r_iload2 (pc := 33) C dX6_sort_33 ?_
          refine a409 (pc := 34) C hT rfl (by omega) dX6_sort_34 ?_
          refine r_if_ne (pc := 35) C (tgt := 65) dX6_sort_35 (by decide) (fun c_35 => ?_) (fun c_35 => ?_)
          · refine r_iconst (pc := 65) C (v := 0) dX6_sort_65 (by decide) ?_
            refine kX6_124 (pc := 66) C (ask2 l D _ _ _ hT ((0 ≤ x ∧ x ≤ 3) ∧ (0 ≤ (nI i) ∧ (nI i) < nI nr)) (σ 69 i = 0 ∧ (σ 75 i >>> (x &&& 31)) &&& 1 = 0 ∧ σ 73 i < 3) (by first | rfl | exact (bI_t (by with_reducible assumption)).symm | exact (bI_f (by with_reducible assumption)).symm | exact bI_c (by grind) | exact (bI_t (by grind)).symm | exact (bI_f (by grind)).symm) (fun hP0 => by first | rfl | exact absurd hP0 (by with_reducible assumption) | (obtain ⟨hp1, hp2⟩ := hP0; first | exact absurd hp1 (by with_reducible assumption) | exact absurd hp2 (by with_reducible assumption)) | exact (bI_t (by with_reducible assumption)).symm | exact (bI_f (by with_reducible assumption)).symm | exact bI_c (by grind) | exact (bI_t (by grind)).symm | exact (bI_f (by grind)).symm)) (hT.f (by decide)) rfl dX6_sort_66 (Nat.le_of_ble_eq_true rfl) (by decide) ?_
            rintro _ _ ⟨rfl, rfl⟩
            refine r_if_ne_b (pc := 69) C (tgt := 74) dX6_sort_69 (by decide) (fun c_69 => ?_) (fun c_69 => ?_)
            · have hok : (cd2 ((0 ≤ x ∧ x ≤ 3) ∧ (0 ≤ (nI i) ∧ (nI i) < nI nr)) (σ 69 i = 0 ∧ (σ 75 i >>> (x &&& 31)) &&& 1 = 0 ∧ σ 73 i < 3)) = 0 := cd2_t c_69
              rw [hok]
              obtain ⟨τ, hτ⟩ : ∃ τ, up σ 60 0 0 = τ := ⟨_, rfl⟩
              rw [hτ]
              obtain ⟨hm1, hm3, hm26, hm18, hnp, hnr, hng, hnb5, hb, hsc, hlc, hpa, hro, hof, hte⟩ := (hτ ▸ ML_up 0 hS : ML nr ng np nb τ)
              obtain ⟨hP, hQ⟩ := c_69
              obtain ⟨hP1, hP2⟩ := hP
              obtain ⟨j, hj, rfl⟩ := ul_s (n := 3) (by omega) hP1
              rw [nI_clamp (by omega)]
              obtain ⟨c3, hc3, hce⟩ := hsc i hi
              have hq3 : τ 73 i < 3 := by rw [← hτ]; exact hQ.2.2
              have hc4 : c3 < 3 := by rw [hce] at hq3; exact (nI_ltI (by omega) (by decide)).mp hq3
              rw [show (τ 73 i).toNatClampNeg = c3 by rw [hce, nI_clamp (by omega)]]
              refine r_aload0 (pc := 74) C dX6_sort_74 ?_
              refine gX6_19 (pc := 75) C hT dX6_sort_75 ?_
              refine r_iload2 (pc := 78) C dX6_sort_78 ?_
              refine a406 (pc := 79) C hT rfl (by omega) dX6_sort_79 ?_
              refine r_aload0 (pc := 80) C dX6_sort_80 ?_
              refine gX6_22 (pc := 81) C hT dX6_sort_81 ?_
              refine r_iload2 (pc := 84) C dX6_sort_84 ?_
              refine a407 (pc := 85) C hT rfl (by omega) dX6_sort_85 ?_
              refine r_iadd (pc := 86) C dX6_sort_86 ?_
              refine r_aload0 (pc := 87) C dX6_sort_87 ?_
              refine gX6_49 (pc := 88) C hT dX6_sort_88 ?_
              refine r_iload1 (pc := 91) C dX6_sort_91 ?_
              refine a416 (pc := 92) C hT rfl (by omega) dX6_sort_92 ?_
              refine r_iadd (pc := 93) C dX6_sort_93 ?_
              refine r_bipush (pc := 94) C (v := 18) dX6_sort_94 (by decide) ?_
              refine kX6_135 (pc := 96) C (c_X6_within l D _ _ _ (by decide)) dX6_sort_96 (Nat.le_of_ble_eq_true rfl) (by decide) ?_
              rintro _ _ ⟨rfl, rfl⟩
              refine r_istore4 (pc := 99) C dX6_sort_99 ?_
              refine r_aload0 (pc := 101) C dX6_sort_101 ?_
              refine gX6_43 (pc := 102) C hT dX6_sort_102 ?_
              refine r_iconst (pc := 105) C (v := 3) dX6_sort_105 (by decide) ?_
              refine r_iload2 (pc := 106) C dX6_sort_106 ?_
              refine r_imul (pc := 107) C dX6_sort_107 ?_
              refine r_aload0 (pc := 108) C dX6_sort_108 ?_
              refine gX6_40 (pc := 109) C hT dX6_sort_109 ?_
              refine r_iload2 (pc := 112) C dX6_sort_112 ?_
              refine a413 (pc := 113) C hT rfl (by omega) dX6_sort_113 ?_
              refine r_iadd (pc := 114) C dX6_sort_114 ?_
              refine r_iload4 (pc := 115) C dX6_sort_115 ?_
              refine b414 (pc := 117) C hT (show (3 : Int32) * nI i + τ 73 i = nI (3 * i + c3) by rw [hce]; exact ix3n i c3) (by omega) dX6_sort_117 ?_
              refine r_aload0 (pc := 118) C dX6_sort_118 ?_
              refine gX6_40 (pc := 119) C hT dX6_sort_119 ?_
              refine r_iload2 (pc := 122) C dX6_sort_122 ?_
              refine r_dup2 (pc := 123) C dX6_sort_123 rfl rfl ?_
              refine a413 (pc := 124) C hT rfl (by omega) dX6_sort_124 ?_
              rw [show (up τ 74 (3 * i + c3) (mxI 0 (mnI 18 (τ 66 i + τ 67 i + τ 76 j)))) 73 i = τ 73 i from rfl]
              refine r_iconst (pc := 125) C (v := 1) dX6_sort_125 (by decide) ?_
              refine r_iadd (pc := 126) C dX6_sort_126 ?_
              refine b413 (pc := 127) C hT rfl (by omega) dX6_sort_127 ?_
              refine r_aload0 (pc := 128) C dX6_sort_128 ?_
              refine gX6_46 (pc := 129) C hT dX6_sort_129 ?_
              refine r_iload2 (pc := 132) C dX6_sort_132 ?_
              refine r_dup2 (pc := 133) C dX6_sort_133 rfl rfl ?_
              refine a415 (pc := 134) C hT rfl (by omega) dX6_sort_134 ?_
              rw [show (up (up τ 74 (3 * i + c3) (mxI 0 (mnI 18 (τ 66 i + τ 67 i + τ 76 j)))) 73 i (τ 73 i + 1)) 75 i = τ 75 i from rfl]
              refine r_iconst (pc := 135) C (v := 1) dX6_sort_135 (by decide) ?_
              refine r_iload1 (pc := 136) C dX6_sort_136 ?_
              refine r_ishl (pc := 137) C dX6_sort_137 ?_
              refine r_ior (pc := 138) C dX6_sort_138 ?_
              refine b415 (pc := 139) C hT rfl (by omega) dX6_sort_139 ?_
              refine r_iload4 (pc := 140) C dX6_sort_140 ?_
              exact r_iret C rfl dX6_sort_142 (by first | exact ⟨fun q => absurd q hno, fun _ => ⟨rfl, rfl⟩⟩ | exact ⟨fun _ => ⟨rfl, rfl⟩, fun q => absurd rfl q⟩) (by decide) (by decide)
            · have hno : ¬ (cd2 ((0 ≤ x ∧ x ≤ 3) ∧ (0 ≤ (nI i) ∧ (nI i) < nI nr)) (σ 69 i = 0 ∧ (σ 75 i >>> (x &&& 31)) &&& 1 = 0 ∧ σ 73 i < 3)) = 0 := cd2_f (by assumption)
              refine r_iconst (pc := 72) C (v := 0) dX6_sort_72 (by decide) ?_
              exact r_iret C rfl dX6_sort_73 (by first | exact ⟨fun q => absurd q hno, fun _ => ⟨rfl, rfl⟩⟩ | exact ⟨fun _ => ⟨rfl, rfl⟩, fun q => absurd rfl q⟩) (by decide) (by decide)
          · refine r_aload0 (pc := 38) C dX6_sort_38 ?_
            refine gX6_46 (pc := 39) C hT dX6_sort_39 ?_
            refine r_iload2 (pc := 42) C dX6_sort_42 ?_
            refine a415 (pc := 43) C hT rfl (by omega) dX6_sort_43 ?_
            refine r_iload1 (pc := 44) C dX6_sort_44 ?_
            refine r_ishr (pc := 45) C dX6_sort_45 ?_
            refine r_iconst (pc := 46) C (v := 1) dX6_sort_46 (by decide) ?_
            refine r_iand (pc := 47) C dX6_sort_47 ?_
            refine r_if_ne (pc := 48) C (tgt := 65) dX6_sort_48 (by decide) (fun c_48 => ?_) (fun c_48 => ?_)
            · refine r_iconst (pc := 65) C (v := 0) dX6_sort_65 (by decide) ?_
              refine kX6_124 (pc := 66) C (ask2 l D _ _ _ hT ((0 ≤ x ∧ x ≤ 3) ∧ (0 ≤ (nI i) ∧ (nI i) < nI nr)) (σ 69 i = 0 ∧ (σ 75 i >>> (x &&& 31)) &&& 1 = 0 ∧ σ 73 i < 3) (by first | rfl | exact (bI_t (by with_reducible assumption)).symm | exact (bI_f (by with_reducible assumption)).symm | exact bI_c (by grind) | exact (bI_t (by grind)).symm | exact (bI_f (by grind)).symm) (fun hP0 => by first | rfl | exact absurd hP0 (by with_reducible assumption) | (obtain ⟨hp1, hp2⟩ := hP0; first | exact absurd hp1 (by with_reducible assumption) | exact absurd hp2 (by with_reducible assumption)) | exact (bI_t (by with_reducible assumption)).symm | exact (bI_f (by with_reducible assumption)).symm | exact bI_c (by grind) | exact (bI_t (by grind)).symm | exact (bI_f (by grind)).symm)) (hT.f (by decide)) rfl dX6_sort_66 (Nat.le_of_ble_eq_true rfl) (by decide) ?_
              rintro _ _ ⟨rfl, rfl⟩
              refine r_if_ne_b (pc := 69) C (tgt := 74) dX6_sort_69 (by decide) (fun c_69 => ?_) (fun c_69 => ?_)
              · have hok : (cd2 ((0 ≤ x ∧ x ≤ 3) ∧ (0 ≤ (nI i) ∧ (nI i) < nI nr)) (σ 69 i = 0 ∧ (σ 75 i >>> (x &&& 31)) &&& 1 = 0 ∧ σ 73 i < 3)) = 0 := cd2_t c_69
                rw [hok]
                obtain ⟨τ, hτ⟩ : ∃ τ, up σ 60 0 0 = τ := ⟨_, rfl⟩
                rw [hτ]
                obtain ⟨hm1, hm3, hm26, hm18, hnp, hnr, hng, hnb5, hb, hsc, hlc, hpa, hro, hof, hte⟩ := (hτ ▸ ML_up 0 hS : ML nr ng np nb τ)
                obtain ⟨hP, hQ⟩ := c_69
                obtain ⟨hP1, hP2⟩ := hP
                obtain ⟨j, hj, rfl⟩ := ul_s (n := 3) (by omega) hP1
                rw [nI_clamp (by omega)]
                obtain ⟨c3, hc3, hce⟩ := hsc i hi
                have hq3 : τ 73 i < 3 := by rw [← hτ]; exact hQ.2.2
                have hc4 : c3 < 3 := by rw [hce] at hq3; exact (nI_ltI (by omega) (by decide)).mp hq3
                rw [show (τ 73 i).toNatClampNeg = c3 by rw [hce, nI_clamp (by omega)]]
                refine r_aload0 (pc := 74) C dX6_sort_74 ?_
                refine gX6_19 (pc := 75) C hT dX6_sort_75 ?_
                refine r_iload2 (pc := 78) C dX6_sort_78 ?_
                refine a406 (pc := 79) C hT rfl (by omega) dX6_sort_79 ?_
                refine r_aload0 (pc := 80) C dX6_sort_80 ?_
                refine gX6_22 (pc := 81) C hT dX6_sort_81 ?_
                refine r_iload2 (pc := 84) C dX6_sort_84 ?_
                refine a407 (pc := 85) C hT rfl (by omega) dX6_sort_85 ?_
                refine r_iadd (pc := 86) C dX6_sort_86 ?_
                refine r_aload0 (pc := 87) C dX6_sort_87 ?_
                refine gX6_49 (pc := 88) C hT dX6_sort_88 ?_
                refine r_iload1 (pc := 91) C dX6_sort_91 ?_
                refine a416 (pc := 92) C hT rfl (by omega) dX6_sort_92 ?_
                refine r_iadd (pc := 93) C dX6_sort_93 ?_
                refine r_bipush (pc := 94) C (v := 18) dX6_sort_94 (by decide) ?_
                refine kX6_135 (pc := 96) C (c_X6_within l D _ _ _ (by decide)) dX6_sort_96 (Nat.le_of_ble_eq_true rfl) (by decide) ?_
                rintro _ _ ⟨rfl, rfl⟩
                refine r_istore4 (pc := 99) C dX6_sort_99 ?_
                refine r_aload0 (pc := 101) C dX6_sort_101 ?_
                refine gX6_43 (pc := 102) C hT dX6_sort_102 ?_
                refine r_iconst (pc := 105) C (v := 3) dX6_sort_105 (by decide) ?_
                refine r_iload2 (pc := 106) C dX6_sort_106 ?_
                refine r_imul (pc := 107) C dX6_sort_107 ?_
                refine r_aload0 (pc := 108) C dX6_sort_108 ?_
                refine gX6_40 (pc := 109) C hT dX6_sort_109 ?_
                refine r_iload2 (pc := 112) C dX6_sort_112 ?_
                refine a413 (pc := 113) C hT rfl (by omega) dX6_sort_113 ?_
                refine r_iadd (pc := 114) C dX6_sort_114 ?_
                refine r_iload4 (pc := 115) C dX6_sort_115 ?_
                refine b414 (pc := 117) C hT (show (3 : Int32) * nI i + τ 73 i = nI (3 * i + c3) by rw [hce]; exact ix3n i c3) (by omega) dX6_sort_117 ?_
                refine r_aload0 (pc := 118) C dX6_sort_118 ?_
                refine gX6_40 (pc := 119) C hT dX6_sort_119 ?_
                refine r_iload2 (pc := 122) C dX6_sort_122 ?_
                refine r_dup2 (pc := 123) C dX6_sort_123 rfl rfl ?_
                refine a413 (pc := 124) C hT rfl (by omega) dX6_sort_124 ?_
                rw [show (up τ 74 (3 * i + c3) (mxI 0 (mnI 18 (τ 66 i + τ 67 i + τ 76 j)))) 73 i = τ 73 i from rfl]
                refine r_iconst (pc := 125) C (v := 1) dX6_sort_125 (by decide) ?_
                refine r_iadd (pc := 126) C dX6_sort_126 ?_
                refine b413 (pc := 127) C hT rfl (by omega) dX6_sort_127 ?_
                refine r_aload0 (pc := 128) C dX6_sort_128 ?_
                refine gX6_46 (pc := 129) C hT dX6_sort_129 ?_
                refine r_iload2 (pc := 132) C dX6_sort_132 ?_
                refine r_dup2 (pc := 133) C dX6_sort_133 rfl rfl ?_
                refine a415 (pc := 134) C hT rfl (by omega) dX6_sort_134 ?_
                rw [show (up (up τ 74 (3 * i + c3) (mxI 0 (mnI 18 (τ 66 i + τ 67 i + τ 76 j)))) 73 i (τ 73 i + 1)) 75 i = τ 75 i from rfl]
                refine r_iconst (pc := 135) C (v := 1) dX6_sort_135 (by decide) ?_
                refine r_iload1 (pc := 136) C dX6_sort_136 ?_
                refine r_ishl (pc := 137) C dX6_sort_137 ?_
                refine r_ior (pc := 138) C dX6_sort_138 ?_
                refine b415 (pc := 139) C hT rfl (by omega) dX6_sort_139 ?_
                refine r_iload4 (pc := 140) C dX6_sort_140 ?_
                exact r_iret C rfl dX6_sort_142 (by first | exact ⟨fun q => absurd q hno, fun _ => ⟨rfl, rfl⟩⟩ | exact ⟨fun _ => ⟨rfl, rfl⟩, fun q => absurd rfl q⟩) (by decide) (by decide)
              · have hno : ¬ (cd2 ((0 ≤ x ∧ x ≤ 3) ∧ (0 ≤ (nI i) ∧ (nI i) < nI nr)) (σ 69 i = 0 ∧ (σ 75 i >>> (x &&& 31)) &&& 1 = 0 ∧ σ 73 i < 3)) = 0 := cd2_f (by assumption)
                refine r_iconst (pc := 72) C (v := 0) dX6_sort_72 (by decide) ?_
                exact r_iret C rfl dX6_sort_73 (by first | exact ⟨fun q => absurd q hno, fun _ => ⟨rfl, rfl⟩⟩ | exact ⟨fun _ => ⟨rfl, rfl⟩, fun q => absurd rfl q⟩) (by decide) (by decide)
            · refine r_aload0 (pc := 51) C dX6_sort_51 ?_
              refine gX6_40 (pc := 52) C hT dX6_sort_52 ?_
              refine r_iload2 (pc := 55) C dX6_sort_55 ?_
              refine a413 (pc := 56) C hT rfl (by omega) dX6_sort_56 ?_
              refine r_iconst (pc := 57) C (v := 3) dX6_sort_57 (by decide) ?_
              refine r_icmp_ge (pc := 58) C (tgt := 65) dX6_sort_58 (by decide) (fun c_58 => ?_) (fun c_58 => ?_)
              · refine r_iconst (pc := 65) C (v := 0) dX6_sort_65 (by decide) ?_
                refine kX6_124 (pc := 66) C (ask2 l D _ _ _ hT ((0 ≤ x ∧ x ≤ 3) ∧ (0 ≤ (nI i) ∧ (nI i) < nI nr)) (σ 69 i = 0 ∧ (σ 75 i >>> (x &&& 31)) &&& 1 = 0 ∧ σ 73 i < 3) (by first | rfl | exact (bI_t (by with_reducible assumption)).symm | exact (bI_f (by with_reducible assumption)).symm | exact bI_c (by grind) | exact (bI_t (by grind)).symm | exact (bI_f (by grind)).symm) (fun hP0 => by first | rfl | exact absurd hP0 (by with_reducible assumption) | (obtain ⟨hp1, hp2⟩ := hP0; first | exact absurd hp1 (by with_reducible assumption) | exact absurd hp2 (by with_reducible assumption)) | exact (bI_t (by with_reducible assumption)).symm | exact (bI_f (by with_reducible assumption)).symm | exact bI_c (by grind) | exact (bI_t (by grind)).symm | exact (bI_f (by grind)).symm)) (hT.f (by decide)) rfl dX6_sort_66 (Nat.le_of_ble_eq_true rfl) (by decide) ?_
                rintro _ _ ⟨rfl, rfl⟩
                refine r_if_ne_b (pc := 69) C (tgt := 74) dX6_sort_69 (by decide) (fun c_69 => ?_) (fun c_69 => ?_)
                · have hok : (cd2 ((0 ≤ x ∧ x ≤ 3) ∧ (0 ≤ (nI i) ∧ (nI i) < nI nr)) (σ 69 i = 0 ∧ (σ 75 i >>> (x &&& 31)) &&& 1 = 0 ∧ σ 73 i < 3)) = 0 := cd2_t c_69
                  rw [hok]
                  obtain ⟨τ, hτ⟩ : ∃ τ, up σ 60 0 0 = τ := ⟨_, rfl⟩
                  rw [hτ]
                  obtain ⟨hm1, hm3, hm26, hm18, hnp, hnr, hng, hnb5, hb, hsc, hlc, hpa, hro, hof, hte⟩ := (hτ ▸ ML_up 0 hS : ML nr ng np nb τ)
                  obtain ⟨hP, hQ⟩ := c_69
                  obtain ⟨hP1, hP2⟩ := hP
                  obtain ⟨j, hj, rfl⟩ := ul_s (n := 3) (by omega) hP1
                  rw [nI_clamp (by omega)]
                  obtain ⟨c3, hc3, hce⟩ := hsc i hi
                  have hq3 : τ 73 i < 3 := by rw [← hτ]; exact hQ.2.2
                  have hc4 : c3 < 3 := by rw [hce] at hq3; exact (nI_ltI (by omega) (by decide)).mp hq3
                  rw [show (τ 73 i).toNatClampNeg = c3 by rw [hce, nI_clamp (by omega)]]
                  refine r_aload0 (pc := 74) C dX6_sort_74 ?_
                  refine gX6_19 (pc := 75) C hT dX6_sort_75 ?_
                  refine r_iload2 (pc := 78) C dX6_sort_78 ?_
                  refine a406 (pc := 79) C hT rfl (by omega) dX6_sort_79 ?_
                  refine r_aload0 (pc := 80) C dX6_sort_80 ?_
                  refine gX6_22 (pc := 81) C hT dX6_sort_81 ?_
                  refine r_iload2 (pc := 84) C dX6_sort_84 ?_
                  refine a407 (pc := 85) C hT rfl (by omega) dX6_sort_85 ?_
                  refine r_iadd (pc := 86) C dX6_sort_86 ?_
                  refine r_aload0 (pc := 87) C dX6_sort_87 ?_
                  refine gX6_49 (pc := 88) C hT dX6_sort_88 ?_
                  refine r_iload1 (pc := 91) C dX6_sort_91 ?_
                  refine a416 (pc := 92) C hT rfl (by omega) dX6_sort_92 ?_
                  refine r_iadd (pc := 93) C dX6_sort_93 ?_
                  refine r_bipush (pc := 94) C (v := 18) dX6_sort_94 (by decide) ?_
                  refine kX6_135 (pc := 96) C (c_X6_within l D _ _ _ (by decide)) dX6_sort_96 (Nat.le_of_ble_eq_true rfl) (by decide) ?_
                  rintro _ _ ⟨rfl, rfl⟩
                  refine r_istore4 (pc := 99) C dX6_sort_99 ?_
                  refine r_aload0 (pc := 101) C dX6_sort_101 ?_
                  refine gX6_43 (pc := 102) C hT dX6_sort_102 ?_
                  refine r_iconst (pc := 105) C (v := 3) dX6_sort_105 (by decide) ?_
                  refine r_iload2 (pc := 106) C dX6_sort_106 ?_
                  refine r_imul (pc := 107) C dX6_sort_107 ?_
                  refine r_aload0 (pc := 108) C dX6_sort_108 ?_
                  refine gX6_40 (pc := 109) C hT dX6_sort_109 ?_
                  refine r_iload2 (pc := 112) C dX6_sort_112 ?_
                  refine a413 (pc := 113) C hT rfl (by omega) dX6_sort_113 ?_
                  refine r_iadd (pc := 114) C dX6_sort_114 ?_
                  refine r_iload4 (pc := 115) C dX6_sort_115 ?_
                  refine b414 (pc := 117) C hT (show (3 : Int32) * nI i + τ 73 i = nI (3 * i + c3) by rw [hce]; exact ix3n i c3) (by omega) dX6_sort_117 ?_
                  refine r_aload0 (pc := 118) C dX6_sort_118 ?_
                  refine gX6_40 (pc := 119) C hT dX6_sort_119 ?_
                  refine r_iload2 (pc := 122) C dX6_sort_122 ?_
                  refine r_dup2 (pc := 123) C dX6_sort_123 rfl rfl ?_
                  refine a413 (pc := 124) C hT rfl (by omega) dX6_sort_124 ?_
                  rw [show (up τ 74 (3 * i + c3) (mxI 0 (mnI 18 (τ 66 i + τ 67 i + τ 76 j)))) 73 i = τ 73 i from rfl]
                  refine r_iconst (pc := 125) C (v := 1) dX6_sort_125 (by decide) ?_
                  refine r_iadd (pc := 126) C dX6_sort_126 ?_
                  refine b413 (pc := 127) C hT rfl (by omega) dX6_sort_127 ?_
                  refine r_aload0 (pc := 128) C dX6_sort_128 ?_
                  refine gX6_46 (pc := 129) C hT dX6_sort_129 ?_
                  refine r_iload2 (pc := 132) C dX6_sort_132 ?_
                  refine r_dup2 (pc := 133) C dX6_sort_133 rfl rfl ?_
                  refine a415 (pc := 134) C hT rfl (by omega) dX6_sort_134 ?_
                  rw [show (up (up τ 74 (3 * i + c3) (mxI 0 (mnI 18 (τ 66 i + τ 67 i + τ 76 j)))) 73 i (τ 73 i + 1)) 75 i = τ 75 i from rfl]
                  refine r_iconst (pc := 135) C (v := 1) dX6_sort_135 (by decide) ?_
                  refine r_iload1 (pc := 136) C dX6_sort_136 ?_
                  refine r_ishl (pc := 137) C dX6_sort_137 ?_
                  refine r_ior (pc := 138) C dX6_sort_138 ?_
                  refine b415 (pc := 139) C hT rfl (by omega) dX6_sort_139 ?_
                  refine r_iload4 (pc := 140) C dX6_sort_140 ?_
                  exact r_iret C rfl dX6_sort_142 (by first | exact ⟨fun q => absurd q hno, fun _ => ⟨rfl, rfl⟩⟩ | exact ⟨fun _ => ⟨rfl, rfl⟩, fun q => absurd rfl q⟩) (by decide) (by decide)
                · have hno : ¬ (cd2 ((0 ≤ x ∧ x ≤ 3) ∧ (0 ≤ (nI i) ∧ (nI i) < nI nr)) (σ 69 i = 0 ∧ (σ 75 i >>> (x &&& 31)) &&& 1 = 0 ∧ σ 73 i < 3)) = 0 := cd2_f (by assumption)
                  refine r_iconst (pc := 72) C (v := 0) dX6_sort_72 (by decide) ?_
                  exact r_iret C rfl dX6_sort_73 (by first | exact ⟨fun q => absurd q hno, fun _ => ⟨rfl, rfl⟩⟩ | exact ⟨fun _ => ⟨rfl, rfl⟩, fun q => absurd rfl q⟩) (by decide) (by decide)
              · refine r_iconst (pc := 61) C (v := 1) dX6_sort_61 (by decide) ?_
                refine r_goto (pc := 62) C (tgt := 66) dX6_sort_62 (by decide) ?_
                refine kX6_124 (pc := 66) C (ask2 l D _ _ _ hT ((0 ≤ x ∧ x ≤ 3) ∧ (0 ≤ (nI i) ∧ (nI i) < nI nr)) (σ 69 i = 0 ∧ (σ 75 i >>> (x &&& 31)) &&& 1 = 0 ∧ σ 73 i < 3) (by first | rfl | exact (bI_t (by with_reducible assumption)).symm | exact (bI_f (by with_reducible assumption)).symm | exact bI_c (by grind) | exact (bI_t (by grind)).symm | exact (bI_f (by grind)).symm) (fun hP0 => by first | rfl | exact absurd hP0 (by with_reducible assumption) | (obtain ⟨hp1, hp2⟩ := hP0; first | exact absurd hp1 (by with_reducible assumption) | exact absurd hp2 (by with_reducible assumption)) | exact (bI_t (by with_reducible assumption)).symm | exact (bI_f (by with_reducible assumption)).symm | exact bI_c (by grind) | exact (bI_t (by grind)).symm | exact (bI_f (by grind)).symm)) (hT.f (by decide)) rfl dX6_sort_66 (Nat.le_of_ble_eq_true rfl) (by decide) ?_
                rintro _ _ ⟨rfl, rfl⟩
                refine r_if_ne_b (pc := 69) C (tgt := 74) dX6_sort_69 (by decide) (fun c_69 => ?_) (fun c_69 => ?_)
                · have hok : (cd2 ((0 ≤ x ∧ x ≤ 3) ∧ (0 ≤ (nI i) ∧ (nI i) < nI nr)) (σ 69 i = 0 ∧ (σ 75 i >>> (x &&& 31)) &&& 1 = 0 ∧ σ 73 i < 3)) = 0 := cd2_t c_69
                  rw [hok]
                  obtain ⟨τ, hτ⟩ : ∃ τ, up σ 60 0 0 = τ := ⟨_, rfl⟩
                  rw [hτ]
                  obtain ⟨hm1, hm3, hm26, hm18, hnp, hnr, hng, hnb5, hb, hsc, hlc, hpa, hro, hof, hte⟩ := (hτ ▸ ML_up 0 hS : ML nr ng np nb τ)
                  obtain ⟨hP, hQ⟩ := c_69
                  obtain ⟨hP1, hP2⟩ := hP
                  obtain ⟨j, hj, rfl⟩ := ul_s (n := 3) (by omega) hP1
                  rw [nI_clamp (by omega)]
                  obtain ⟨c3, hc3, hce⟩ := hsc i hi
                  have hq3 : τ 73 i < 3 := by rw [← hτ]; exact hQ.2.2
                  have hc4 : c3 < 3 := by rw [hce] at hq3; exact (nI_ltI (by omega) (by decide)).mp hq3
                  rw [show (τ 73 i).toNatClampNeg = c3 by rw [hce, nI_clamp (by omega)]]
                  refine r_aload0 (pc := 74) C dX6_sort_74 ?_
                  refine gX6_19 (pc := 75) C hT dX6_sort_75 ?_
                  refine r_iload2 (pc := 78) C dX6_sort_78 ?_
                  refine a406 (pc := 79) C hT rfl (by omega) dX6_sort_79 ?_
                  refine r_aload0 (pc := 80) C dX6_sort_80 ?_
                  refine gX6_22 (pc := 81) C hT dX6_sort_81 ?_
                  refine r_iload2 (pc := 84) C dX6_sort_84 ?_
                  refine a407 (pc := 85) C hT rfl (by omega) dX6_sort_85 ?_
                  refine r_iadd (pc := 86) C dX6_sort_86 ?_
                  refine r_aload0 (pc := 87) C dX6_sort_87 ?_
                  refine gX6_49 (pc := 88) C hT dX6_sort_88 ?_
                  refine r_iload1 (pc := 91) C dX6_sort_91 ?_
                  refine a416 (pc := 92) C hT rfl (by omega) dX6_sort_92 ?_
                  refine r_iadd (pc := 93) C dX6_sort_93 ?_
                  refine r_bipush (pc := 94) C (v := 18) dX6_sort_94 (by decide) ?_
                  refine kX6_135 (pc := 96) C (c_X6_within l D _ _ _ (by decide)) dX6_sort_96 (Nat.le_of_ble_eq_true rfl) (by decide) ?_
                  rintro _ _ ⟨rfl, rfl⟩
                  refine r_istore4 (pc := 99) C dX6_sort_99 ?_
                  refine r_aload0 (pc := 101) C dX6_sort_101 ?_
                  refine gX6_43 (pc := 102) C hT dX6_sort_102 ?_
                  refine r_iconst (pc := 105) C (v := 3) dX6_sort_105 (by decide) ?_
                  refine r_iload2 (pc := 106) C dX6_sort_106 ?_
                  refine r_imul (pc := 107) C dX6_sort_107 ?_
                  refine r_aload0 (pc := 108) C dX6_sort_108 ?_
                  refine gX6_40 (pc := 109) C hT dX6_sort_109 ?_
                  refine r_iload2 (pc := 112) C dX6_sort_112 ?_
                  refine a413 (pc := 113) C hT rfl (by omega) dX6_sort_113 ?_
                  refine r_iadd (pc := 114) C dX6_sort_114 ?_
                  refine r_iload4 (pc := 115) C dX6_sort_115 ?_
                  refine b414 (pc := 117) C hT (show (3 : Int32) * nI i + τ 73 i = nI (3 * i + c3) by rw [hce]; exact ix3n i c3) (by omega) dX6_sort_117 ?_
                  refine r_aload0 (pc := 118) C dX6_sort_118 ?_
                  refine gX6_40 (pc := 119) C hT dX6_sort_119 ?_
                  refine r_iload2 (pc := 122) C dX6_sort_122 ?_
                  refine r_dup2 (pc := 123) C dX6_sort_123 rfl rfl ?_
                  refine a413 (pc := 124) C hT rfl (by omega) dX6_sort_124 ?_
                  rw [show (up τ 74 (3 * i + c3) (mxI 0 (mnI 18 (τ 66 i + τ 67 i + τ 76 j)))) 73 i = τ 73 i from rfl]
                  refine r_iconst (pc := 125) C (v := 1) dX6_sort_125 (by decide) ?_
                  refine r_iadd (pc := 126) C dX6_sort_126 ?_
                  refine b413 (pc := 127) C hT rfl (by omega) dX6_sort_127 ?_
                  refine r_aload0 (pc := 128) C dX6_sort_128 ?_
                  refine gX6_46 (pc := 129) C hT dX6_sort_129 ?_
                  refine r_iload2 (pc := 132) C dX6_sort_132 ?_
                  refine r_dup2 (pc := 133) C dX6_sort_133 rfl rfl ?_
                  refine a415 (pc := 134) C hT rfl (by omega) dX6_sort_134 ?_
                  rw [show (up (up τ 74 (3 * i + c3) (mxI 0 (mnI 18 (τ 66 i + τ 67 i + τ 76 j)))) 73 i (τ 73 i + 1)) 75 i = τ 75 i from rfl]
                  refine r_iconst (pc := 135) C (v := 1) dX6_sort_135 (by decide) ?_
                  refine r_iload1 (pc := 136) C dX6_sort_136 ?_
                  refine r_ishl (pc := 137) C dX6_sort_137 ?_
                  refine r_ior (pc := 138) C dX6_sort_138 ?_
                  refine b415 (pc := 139) C hT rfl (by omega) dX6_sort_139 ?_
                  refine r_iload4 (pc := 140) C dX6_sort_140 ?_
                  exact r_iret C rfl dX6_sort_142 (by first | exact ⟨fun q => absurd q hno, fun _ => ⟨rfl, rfl⟩⟩ | exact ⟨fun _ => ⟨rfl, rfl⟩, fun q => absurd rfl q⟩) (by decide) (by decide)
                · have hno : ¬ (cd2 ((0 ≤ x ∧ x ≤ 3) ∧ (0 ≤ (nI i) ∧ (nI i) < nI nr)) (σ 69 i = 0 ∧ (σ 75 i >>> (x &&& 31)) &&& 1 = 0 ∧ σ 73 i < 3)) = 0 := cd2_f (by assumption)
                  refine r_iconst (pc := 72) C (v := 0) dX6_sort_72 (by decide) ?_
                  exact r_iret C rfl dX6_sort_73 (by first | exact ⟨fun q => absurd q hno, fun _ => ⟨rfl, rfl⟩⟩ | exact ⟨fun _ => ⟨rfl, rfl⟩, fun q => absurd rfl q⟩) (by decide) (by decide)
      · refine r_iconst (pc := 17) C (v := 1) dX6_sort_17 (by decide) ?_
        refine r_goto (pc := 18) C (tgt := 22) dX6_sort_18 (by decide) ?_
        refine r_istore3 (pc := 22) C dX6_sort_22 ?_
        refine r_aload0 (pc := 23) C dX6_sort_23 ?_
        refine r_iload3 (pc := 24) C dX6_sort_24 ?_
        refine r_iload3 (pc := 25) C dX6_sort_25 ?_
        refine r_if_eq (pc := 26) C (tgt := 65) dX6_sort_26 (by decide) (fun c_26 => ?_) (fun c_26 => ?_)
        · refine r_iconst (pc := 65) C (v := 0) dX6_sort_65 (by decide) ?_
          refine kX6_124 (pc := 66) C (ask2 l D _ _ _ hT ((0 ≤ x ∧ x ≤ 3) ∧ (0 ≤ (nI i) ∧ (nI i) < nI nr)) (σ 69 i = 0 ∧ (σ 75 i >>> (x &&& 31)) &&& 1 = 0 ∧ σ 73 i < 3) (by first | rfl | exact (bI_t (by with_reducible assumption)).symm | exact (bI_f (by with_reducible assumption)).symm | exact bI_c (by grind) | exact (bI_t (by grind)).symm | exact (bI_f (by grind)).symm) (fun hP0 => by first | rfl | exact absurd hP0 (by with_reducible assumption) | (obtain ⟨hp1, hp2⟩ := hP0; first | exact absurd hp1 (by with_reducible assumption) | exact absurd hp2 (by with_reducible assumption)) | exact (bI_t (by with_reducible assumption)).symm | exact (bI_f (by with_reducible assumption)).symm | exact bI_c (by grind) | exact (bI_t (by grind)).symm | exact (bI_f (by grind)).symm)) (hT.f (by decide)) rfl dX6_sort_66 (Nat.le_of_ble_eq_true rfl) (by decide) ?_
          rintro _ _ ⟨rfl, rfl⟩
          refine r_if_ne_b (pc := 69) C (tgt := 74) dX6_sort_69 (by decide) (fun c_69 => ?_) (fun c_69 => ?_)
          · have hok : (cd2 ((0 ≤ x ∧ x ≤ 3) ∧ (0 ≤ (nI i) ∧ (nI i) < nI nr)) (σ 69 i = 0 ∧ (σ 75 i >>> (x &&& 31)) &&& 1 = 0 ∧ σ 73 i < 3)) = 0 := cd2_t c_69
            rw [hok]
            obtain ⟨τ, hτ⟩ : ∃ τ, up σ 60 0 0 = τ := ⟨_, rfl⟩
            rw [hτ]
            obtain ⟨hm1, hm3, hm26, hm18, hnp, hnr, hng, hnb5, hb, hsc, hlc, hpa, hro, hof, hte⟩ := (hτ ▸ ML_up 0 hS : ML nr ng np nb τ)
            obtain ⟨hP, hQ⟩ := c_69
            obtain ⟨hP1, hP2⟩ := hP
            obtain ⟨j, hj, rfl⟩ := ul_s (n := 3) (by omega) hP1
            rw [nI_clamp (by omega)]
            obtain ⟨c3, hc3, hce⟩ := hsc i hi
            have hq3 : τ 73 i < 3 := by rw [← hτ]; exact hQ.2.2
            have hc4 : c3 < 3 := by rw [hce] at hq3; exact (nI_ltI (by omega) (by decide)).mp hq3
            rw [show (τ 73 i).toNatClampNeg = c3 by rw [hce, nI_clamp (by omega)]]
            refine r_aload0 (pc := 74) C dX6_sort_74 ?_
            refine gX6_19 (pc := 75) C hT dX6_sort_75 ?_
            refine r_iload2 (pc := 78) C dX6_sort_78 ?_
            refine a406 (pc := 79) C hT rfl (by omega) dX6_sort_79 ?_
            refine r_aload0 (pc := 80) C dX6_sort_80 ?_
            refine gX6_22 (pc := 81) C hT dX6_sort_81 ?_
            refine r_iload2 (pc := 84) C dX6_sort_84 ?_
            refine a407 (pc := 85) C hT rfl (by omega) dX6_sort_85 ?_
            refine r_iadd (pc := 86) C dX6_sort_86 ?_
            refine r_aload0 (pc := 87) C dX6_sort_87 ?_
            refine gX6_49 (pc := 88) C hT dX6_sort_88 ?_
            refine r_iload1 (pc := 91) C dX6_sort_91 ?_
            refine a416 (pc := 92) C hT rfl (by omega) dX6_sort_92 ?_
            refine r_iadd (pc := 93) C dX6_sort_93 ?_
            refine r_bipush (pc := 94) C (v := 18) dX6_sort_94 (by decide) ?_
            refine kX6_135 (pc := 96) C (c_X6_within l D _ _ _ (by decide)) dX6_sort_96 (Nat.le_of_ble_eq_true rfl) (by decide) ?_
            rintro _ _ ⟨rfl, rfl⟩
            refine r_istore4 (pc := 99) C dX6_sort_99 ?_
            refine r_aload0 (pc := 101) C dX6_sort_101 ?_
            refine gX6_43 (pc := 102) C hT dX6_sort_102 ?_
            refine r_iconst (pc := 105) C (v := 3) dX6_sort_105 (by decide) ?_
            refine r_iload2 (pc := 106) C dX6_sort_106 ?_
            refine r_imul (pc := 107) C dX6_sort_107 ?_
            refine r_aload0 (pc := 108) C dX6_sort_108 ?_
            refine gX6_40 (pc := 109) C hT dX6_sort_109 ?_
            refine r_iload2 (pc := 112) C dX6_sort_112 ?_
            refine a413 (pc := 113) C hT rfl (by omega) dX6_sort_113 ?_
            refine r_iadd (pc := 114) C dX6_sort_114 ?_
            refine r_iload4 (pc := 115) C dX6_sort_115 ?_
            refine b414 (pc := 117) C hT (show (3 : Int32) * nI i + τ 73 i = nI (3 * i + c3) by rw [hce]; exact ix3n i c3) (by omega) dX6_sort_117 ?_
            refine r_aload0 (pc := 118) C dX6_sort_118 ?_
            refine gX6_40 (pc := 119) C hT dX6_sort_119 ?_
            refine r_iload2 (pc := 122) C dX6_sort_122 ?_
            refine r_dup2 (pc := 123) C dX6_sort_123 rfl rfl ?_
            refine a413 (pc := 124) C hT rfl (by omega) dX6_sort_124 ?_
            rw [show (up τ 74 (3 * i + c3) (mxI 0 (mnI 18 (τ 66 i + τ 67 i + τ 76 j)))) 73 i = τ 73 i from rfl]
            refine r_iconst (pc := 125) C (v := 1) dX6_sort_125 (by decide) ?_
            refine r_iadd (pc := 126) C dX6_sort_126 ?_
            refine b413 (pc := 127) C hT rfl (by omega) dX6_sort_127 ?_
            refine r_aload0 (pc := 128) C dX6_sort_128 ?_
            refine gX6_46 (pc := 129) C hT dX6_sort_129 ?_
            refine r_iload2 (pc := 132) C dX6_sort_132 ?_
            refine r_dup2 (pc := 133) C dX6_sort_133 rfl rfl ?_
            refine a415 (pc := 134) C hT rfl (by omega) dX6_sort_134 ?_
            rw [show (up (up τ 74 (3 * i + c3) (mxI 0 (mnI 18 (τ 66 i + τ 67 i + τ 76 j)))) 73 i (τ 73 i + 1)) 75 i = τ 75 i from rfl]
            refine r_iconst (pc := 135) C (v := 1) dX6_sort_135 (by decide) ?_
            refine r_iload1 (pc := 136) C dX6_sort_136 ?_
            refine r_ishl (pc := 137) C dX6_sort_137 ?_
            refine r_ior (pc := 138) C dX6_sort_138 ?_
            refine b415 (pc := 139) C hT rfl (by omega) dX6_sort_139 ?_
            refine r_iload4 (pc := 140) C dX6_sort_140 ?_
            exact r_iret C rfl dX6_sort_142 (by first | exact ⟨fun q => absurd q hno, fun _ => ⟨rfl, rfl⟩⟩ | exact ⟨fun _ => ⟨rfl, rfl⟩, fun q => absurd rfl q⟩) (by decide) (by decide)
          · have hno : ¬ (cd2 ((0 ≤ x ∧ x ≤ 3) ∧ (0 ≤ (nI i) ∧ (nI i) < nI nr)) (σ 69 i = 0 ∧ (σ 75 i >>> (x &&& 31)) &&& 1 = 0 ∧ σ 73 i < 3)) = 0 := cd2_f (by assumption)
            refine r_iconst (pc := 72) C (v := 0) dX6_sort_72 (by decide) ?_
            exact r_iret C rfl dX6_sort_73 (by first | exact ⟨fun q => absurd q hno, fun _ => ⟨rfl, rfl⟩⟩ | exact ⟨fun _ => ⟨rfl, rfl⟩, fun q => absurd rfl q⟩) (by decide) (by decide)
        · refine r_aload0 (pc := 29) C dX6_sort_29 ?_
          refine gX6_28 (pc := 30) C hT dX6_sort_30 ?_
          refine r_iload2 (pc := 33) C dX6_sort_33 ?_
          refine a409 (pc := 34) C hT rfl (by omega) dX6_sort_34 ?_
          refine r_if_ne (pc := 35) C (tgt := 65) dX6_sort_35 (by decide) (fun c_35 => ?_) (fun c_35 => ?_)
          · refine r_iconst (pc := 65) C (v := 0) dX6_sort_65 (by decide) ?_
            refine kX6_124 (pc := 66) C (ask2 l D _ _ _ hT ((0 ≤ x ∧ x ≤ 3) ∧ (0 ≤ (nI i) ∧ (nI i) < nI nr)) (σ 69 i = 0 ∧ (σ 75 i >>> (x &&& 31)) &&& 1 = 0 ∧ σ 73 i < 3) (by first | rfl | exact (bI_t (by with_reducible assumption)).symm | exact (bI_f (by with_reducible assumption)).symm | exact bI_c (by grind) | exact (bI_t (by grind)).symm | exact (bI_f (by grind)).symm) (fun hP0 => by first | rfl | exact absurd hP0 (by with_reducible assumption) | (obtain ⟨hp1, hp2⟩ := hP0; first | exact absurd hp1 (by with_reducible assumption) | exact absurd hp2 (by with_reducible assumption)) | exact (bI_t (by with_reducible assumption)).symm | exact (bI_f (by with_reducible assumption)).symm | exact bI_c (by grind) | exact (bI_t (by grind)).symm | exact (bI_f (by grind)).symm)) (hT.f (by decide)) rfl dX6_sort_66 (Nat.le_of_ble_eq_true rfl) (by decide) ?_
            rintro _ _ ⟨rfl, rfl⟩
            refine r_if_ne_b (pc := 69) C (tgt := 74) dX6_sort_69 (by decide) (fun c_69 => ?_) (fun c_69 => ?_)
            · have hok : (cd2 ((0 ≤ x ∧ x ≤ 3) ∧ (0 ≤ (nI i) ∧ (nI i) < nI nr)) (σ 69 i = 0 ∧ (σ 75 i >>> (x &&& 31)) &&& 1 = 0 ∧ σ 73 i < 3)) = 0 := cd2_t c_69
              rw [hok]
              obtain ⟨τ, hτ⟩ : ∃ τ, up σ 60 0 0 = τ := ⟨_, rfl⟩
              rw [hτ]
              obtain ⟨hm1, hm3, hm26, hm18, hnp, hnr, hng, hnb5, hb, hsc, hlc, hpa, hro, hof, hte⟩ := (hτ ▸ ML_up 0 hS : ML nr ng np nb τ)
              obtain ⟨hP, hQ⟩ := c_69
              obtain ⟨hP1, hP2⟩ := hP
              obtain ⟨j, hj, rfl⟩ := ul_s (n := 3) (by omega) hP1
              rw [nI_clamp (by omega)]
              obtain ⟨c3, hc3, hce⟩ := hsc i hi
              have hq3 : τ 73 i < 3 := by rw [← hτ]; exact hQ.2.2
              have hc4 : c3 < 3 := by rw [hce] at hq3; exact (nI_ltI (by omega) (by decide)).mp hq3
              rw [show (τ 73 i).toNatClampNeg = c3 by rw [hce, nI_clamp (by omega)]]
              refine r_aload0 (pc := 74) C dX6_sort_74 ?_
              refine gX6_19 (pc := 75) C hT dX6_sort_75 ?_
              refine r_iload2 (pc := 78) C dX6_sort_78 ?_
              refine a406 (pc := 79) C hT rfl (by omega) dX6_sort_79 ?_
              refine r_aload0 (pc := 80) C dX6_sort_80 ?_
              refine gX6_22 (pc := 81) C hT dX6_sort_81 ?_
              refine r_iload2 (pc := 84) C dX6_sort_84 ?_
              refine a407 (pc := 85) C hT rfl (by omega) dX6_sort_85 ?_
              refine r_iadd (pc := 86) C dX6_sort_86 ?_
              refine r_aload0 (pc := 87) C dX6_sort_87 ?_
              refine gX6_49 (pc := 88) C hT dX6_sort_88 ?_
              refine r_iload1 (pc := 91) C dX6_sort_91 ?_
              refine a416 (pc := 92) C hT rfl (by omega) dX6_sort_92 ?_
              refine r_iadd (pc := 93) C dX6_sort_93 ?_
              refine r_bipush (pc := 94) C (v := 18) dX6_sort_94 (by decide) ?_
              refine kX6_135 (pc := 96) C (c_X6_within l D _ _ _ (by decide)) dX6_sort_96 (Nat.le_of_ble_eq_true rfl) (by decide) ?_
              rintro _ _ ⟨rfl, rfl⟩
              refine r_istore4 (pc := 99) C dX6_sort_99 ?_
              refine r_aload0 (pc := 101) C dX6_sort_101 ?_
              refine gX6_43 (pc := 102) C hT dX6_sort_102 ?_
              refine r_iconst (pc := 105) C (v := 3) dX6_sort_105 (by decide) ?_
              refine r_iload2 (pc := 106) C dX6_sort_106 ?_
              refine r_imul (pc := 107) C dX6_sort_107 ?_
              refine r_aload0 (pc := 108) C dX6_sort_108 ?_
              refine gX6_40 (pc := 109) C hT dX6_sort_109 ?_
              refine r_iload2 (pc := 112) C dX6_sort_112 ?_
              refine a413 (pc := 113) C hT rfl (by omega) dX6_sort_113 ?_
              refine r_iadd (pc := 114) C dX6_sort_114 ?_
              refine r_iload4 (pc := 115) C dX6_sort_115 ?_
              refine b414 (pc := 117) C hT (show (3 : Int32) * nI i + τ 73 i = nI (3 * i + c3) by rw [hce]; exact ix3n i c3) (by omega) dX6_sort_117 ?_
              refine r_aload0 (pc := 118) C dX6_sort_118 ?_
              refine gX6_40 (pc := 119) C hT dX6_sort_119 ?_
              refine r_iload2 (pc := 122) C dX6_sort_122 ?_
              refine r_dup2 (pc := 123) C dX6_sort_123 rfl rfl ?_
              refine a413 (pc := 124) C hT rfl (by omega) dX6_sort_124 ?_
              rw [show (up τ 74 (3 * i + c3) (mxI 0 (mnI 18 (τ 66 i + τ 67 i + τ 76 j)))) 73 i = τ 73 i from rfl]
              refine r_iconst (pc := 125) C (v := 1) dX6_sort_125 (by decide) ?_
              refine r_iadd (pc := 126) C dX6_sort_126 ?_
              refine b413 (pc := 127) C hT rfl (by omega) dX6_sort_127 ?_
              refine r_aload0 (pc := 128) C dX6_sort_128 ?_
              refine gX6_46 (pc := 129) C hT dX6_sort_129 ?_
              refine r_iload2 (pc := 132) C dX6_sort_132 ?_
              refine r_dup2 (pc := 133) C dX6_sort_133 rfl rfl ?_
              refine a415 (pc := 134) C hT rfl (by omega) dX6_sort_134 ?_
              rw [show (up (up τ 74 (3 * i + c3) (mxI 0 (mnI 18 (τ 66 i + τ 67 i + τ 76 j)))) 73 i (τ 73 i + 1)) 75 i = τ 75 i from rfl]
              refine r_iconst (pc := 135) C (v := 1) dX6_sort_135 (by decide) ?_
              refine r_iload1 (pc := 136) C dX6_sort_136 ?_
              refine r_ishl (pc := 137) C dX6_sort_137 ?_
              refine r_ior (pc := 138) C dX6_sort_138 ?_
              refine b415 (pc := 139) C hT rfl (by omega) dX6_sort_139 ?_
              refine r_iload4 (pc := 140) C dX6_sort_140 ?_
              exact r_iret C rfl dX6_sort_142 (by first | exact ⟨fun q => absurd q hno, fun _ => ⟨rfl, rfl⟩⟩ | exact ⟨fun _ => ⟨rfl, rfl⟩, fun q => absurd rfl q⟩) (by decide) (by decide)
            · have hno : ¬ (cd2 ((0 ≤ x ∧ x ≤ 3) ∧ (0 ≤ (nI i) ∧ (nI i) < nI nr)) (σ 69 i = 0 ∧ (σ 75 i >>> (x &&& 31)) &&& 1 = 0 ∧ σ 73 i < 3)) = 0 := cd2_f (by assumption)
              refine r_iconst (pc := 72) C (v := 0) dX6_sort_72 (by decide) ?_
              exact r_iret C rfl dX6_sort_73 (by first | exact ⟨fun q => absurd q hno, fun _ => ⟨rfl, rfl⟩⟩ | exact ⟨fun _ => ⟨rfl, rfl⟩, fun q => absurd rfl q⟩) (by decide) (by decide)
          · refine r_aload0 (pc := 38) C dX6_sort_38 ?_
            refine gX6_46 (pc := 39) C hT dX6_sort_39 ?_
            refine r_iload2 (pc := 42) C dX6_sort_42 ?_
            refine a415 (pc := 43) C hT rfl (by omega) dX6_sort_43 ?_
            refine r_iload1 (pc := 44) C dX6_sort_44 ?_
            refine r_ishr (pc := 45) C dX6_sort_45 ?_
            refine r_iconst (pc := 46) C (v := 1) dX6_sort_46 (by decide) ?_
            refine r_iand (pc := 47) C dX6_sort_47 ?_
            refine r_if_ne (pc := 48) C (tgt := 65) dX6_sort_48 (by decide) (fun c_48 => ?_) (fun c_48 => ?_)
            · refine r_iconst (pc := 65) C (v := 0) dX6_sort_65 (by decide) ?_
              refine kX6_124 (pc := 66) C (ask2 l D _ _ _ hT ((0 ≤ x ∧ x ≤ 3) ∧ (0 ≤ (nI i) ∧ (nI i) < nI nr)) (σ 69 i = 0 ∧ (σ 75 i >>> (x &&& 31)) &&& 1 = 0 ∧ σ 73 i < 3) (by first | rfl | exact (bI_t (by with_reducible assumption)).symm | exact (bI_f (by with_reducible assumption)).symm | exact bI_c (by grind) | exact (bI_t (by grind)).symm | exact (bI_f (by grind)).symm) (fun hP0 => by first | rfl | exact absurd hP0 (by with_reducible assumption) | (obtain ⟨hp1, hp2⟩ := hP0; first | exact absurd hp1 (by with_reducible assumption) | exact absurd hp2 (by with_reducible assumption)) | exact (bI_t (by with_reducible assumption)).symm | exact (bI_f (by with_reducible assumption)).symm | exact bI_c (by grind) | exact (bI_t (by grind)).symm | exact (bI_f (by grind)).symm)) (hT.f (by decide)) rfl dX6_sort_66 (Nat.le_of_ble_eq_true rfl) (by decide) ?_
              rintro _ _ ⟨rfl, rfl⟩
              refine r_if_ne_b (pc := 69) C (tgt := 74) dX6_sort_69 (by decide) (fun c_69 => ?_) (fun c_69 => ?_)
              · have hok : (cd2 ((0 ≤ x ∧ x ≤ 3) ∧ (0 ≤ (nI i) ∧ (nI i) < nI nr)) (σ 69 i = 0 ∧ (σ 75 i >>> (x &&& 31)) &&& 1 = 0 ∧ σ 73 i < 3)) = 0 := cd2_t c_69
                rw [hok]
                obtain ⟨τ, hτ⟩ : ∃ τ, up σ 60 0 0 = τ := ⟨_, rfl⟩
                rw [hτ]
                obtain ⟨hm1, hm3, hm26, hm18, hnp, hnr, hng, hnb5, hb, hsc, hlc, hpa, hro, hof, hte⟩ := (hτ ▸ ML_up 0 hS : ML nr ng np nb τ)
                obtain ⟨hP, hQ⟩ := c_69
                obtain ⟨hP1, hP2⟩ := hP
                obtain ⟨j, hj, rfl⟩ := ul_s (n := 3) (by omega) hP1
                rw [nI_clamp (by omega)]
                obtain ⟨c3, hc3, hce⟩ := hsc i hi
                have hq3 : τ 73 i < 3 := by rw [← hτ]; exact hQ.2.2
                have hc4 : c3 < 3 := by rw [hce] at hq3; exact (nI_ltI (by omega) (by decide)).mp hq3
                rw [show (τ 73 i).toNatClampNeg = c3 by rw [hce, nI_clamp (by omega)]]
                refine r_aload0 (pc := 74) C dX6_sort_74 ?_
                refine gX6_19 (pc := 75) C hT dX6_sort_75 ?_
                refine r_iload2 (pc := 78) C dX6_sort_78 ?_
                refine a406 (pc := 79) C hT rfl (by omega) dX6_sort_79 ?_
                refine r_aload0 (pc := 80) C dX6_sort_80 ?_
                refine gX6_22 (pc := 81) C hT dX6_sort_81 ?_
                refine r_iload2 (pc := 84) C dX6_sort_84 ?_
                refine a407 (pc := 85) C hT rfl (by omega) dX6_sort_85 ?_
                refine r_iadd (pc := 86) C dX6_sort_86 ?_
                refine r_aload0 (pc := 87) C dX6_sort_87 ?_
                refine gX6_49 (pc := 88) C hT dX6_sort_88 ?_
                refine r_iload1 (pc := 91) C dX6_sort_91 ?_
                refine a416 (pc := 92) C hT rfl (by omega) dX6_sort_92 ?_
                refine r_iadd (pc := 93) C dX6_sort_93 ?_
                refine r_bipush (pc := 94) C (v := 18) dX6_sort_94 (by decide) ?_
                refine kX6_135 (pc := 96) C (c_X6_within l D _ _ _ (by decide)) dX6_sort_96 (Nat.le_of_ble_eq_true rfl) (by decide) ?_
                rintro _ _ ⟨rfl, rfl⟩
                refine r_istore4 (pc := 99) C dX6_sort_99 ?_
                refine r_aload0 (pc := 101) C dX6_sort_101 ?_
                refine gX6_43 (pc := 102) C hT dX6_sort_102 ?_
                refine r_iconst (pc := 105) C (v := 3) dX6_sort_105 (by decide) ?_
                refine r_iload2 (pc := 106) C dX6_sort_106 ?_
                refine r_imul (pc := 107) C dX6_sort_107 ?_
                refine r_aload0 (pc := 108) C dX6_sort_108 ?_
                refine gX6_40 (pc := 109) C hT dX6_sort_109 ?_
                refine r_iload2 (pc := 112) C dX6_sort_112 ?_
                refine a413 (pc := 113) C hT rfl (by omega) dX6_sort_113 ?_
                refine r_iadd (pc := 114) C dX6_sort_114 ?_
                refine r_iload4 (pc := 115) C dX6_sort_115 ?_
                refine b414 (pc := 117) C hT (show (3 : Int32) * nI i + τ 73 i = nI (3 * i + c3) by rw [hce]; exact ix3n i c3) (by omega) dX6_sort_117 ?_
                refine r_aload0 (pc := 118) C dX6_sort_118 ?_
                refine gX6_40 (pc := 119) C hT dX6_sort_119 ?_
                refine r_iload2 (pc := 122) C dX6_sort_122 ?_
                refine r_dup2 (pc := 123) C dX6_sort_123 rfl rfl ?_
                refine a413 (pc := 124) C hT rfl (by omega) dX6_sort_124 ?_
                rw [show (up τ 74 (3 * i + c3) (mxI 0 (mnI 18 (τ 66 i + τ 67 i + τ 76 j)))) 73 i = τ 73 i from rfl]
                refine r_iconst (pc := 125) C (v := 1) dX6_sort_125 (by decide) ?_
                refine r_iadd (pc := 126) C dX6_sort_126 ?_
                refine b413 (pc := 127) C hT rfl (by omega) dX6_sort_127 ?_
                refine r_aload0 (pc := 128) C dX6_sort_128 ?_
                refine gX6_46 (pc := 129) C hT dX6_sort_129 ?_
                refine r_iload2 (pc := 132) C dX6_sort_132 ?_
                refine r_dup2 (pc := 133) C dX6_sort_133 rfl rfl ?_
                refine a415 (pc := 134) C hT rfl (by omega) dX6_sort_134 ?_
                rw [show (up (up τ 74 (3 * i + c3) (mxI 0 (mnI 18 (τ 66 i + τ 67 i + τ 76 j)))) 73 i (τ 73 i + 1)) 75 i = τ 75 i from rfl]
                refine r_iconst (pc := 135) C (v := 1) dX6_sort_135 (by decide) ?_
                refine r_iload1 (pc := 136) C dX6_sort_136 ?_
                refine r_ishl (pc := 137) C dX6_sort_137 ?_
                refine r_ior (pc := 138) C dX6_sort_138 ?_
                refine b415 (pc := 139) C hT rfl (by omega) dX6_sort_139 ?_
                refine r_iload4 (pc := 140) C dX6_sort_140 ?_
                exact r_iret C rfl dX6_sort_142 (by first | exact ⟨fun q => absurd q hno, fun _ => ⟨rfl, rfl⟩⟩ | exact ⟨fun _ => ⟨rfl, rfl⟩, fun q => absurd rfl q⟩) (by decide) (by decide)
              · have hno : ¬ (cd2 ((0 ≤ x ∧ x ≤ 3) ∧ (0 ≤ (nI i) ∧ (nI i) < nI nr)) (σ 69 i = 0 ∧ (σ 75 i >>> (x &&& 31)) &&& 1 = 0 ∧ σ 73 i < 3)) = 0 := cd2_f (by assumption)
                refine r_iconst (pc := 72) C (v := 0) dX6_sort_72 (by decide) ?_
                exact r_iret C rfl dX6_sort_73 (by first | exact ⟨fun q => absurd q hno, fun _ => ⟨rfl, rfl⟩⟩ | exact ⟨fun _ => ⟨rfl, rfl⟩, fun q => absurd rfl q⟩) (by decide) (by decide)
            · refine r_aload0 (pc := 51) C dX6_sort_51 ?_
              refine gX6_40 (pc := 52) C hT dX6_sort_52 ?_
              refine r_iload2 (pc := 55) C dX6_sort_55 ?_
              refine a413 (pc := 56) C hT rfl (by omega) dX6_sort_56 ?_
              refine r_iconst (pc := 57) C (v := 3) dX6_sort_57 (by decide) ?_
              refine r_icmp_ge (pc := 58) C (tgt := 65) dX6_sort_58 (by decide) (fun c_58 => ?_) (fun c_58 => ?_)
              · refine r_iconst (pc := 65) C (v := 0) dX6_sort_65 (by decide) ?_
                refine kX6_124 (pc := 66) C (ask2 l D _ _ _ hT ((0 ≤ x ∧ x ≤ 3) ∧ (0 ≤ (nI i) ∧ (nI i) < nI nr)) (σ 69 i = 0 ∧ (σ 75 i >>> (x &&& 31)) &&& 1 = 0 ∧ σ 73 i < 3) (by first | rfl | exact (bI_t (by with_reducible assumption)).symm | exact (bI_f (by with_reducible assumption)).symm | exact bI_c (by grind) | exact (bI_t (by grind)).symm | exact (bI_f (by grind)).symm) (fun hP0 => by first | rfl | exact absurd hP0 (by with_reducible assumption) | (obtain ⟨hp1, hp2⟩ := hP0; first | exact absurd hp1 (by with_reducible assumption) | exact absurd hp2 (by with_reducible assumption)) | exact (bI_t (by with_reducible assumption)).symm | exact (bI_f (by with_reducible assumption)).symm | exact bI_c (by grind) | exact (bI_t (by grind)).symm | exact (bI_f (by grind)).symm)) (hT.f (by decide)) rfl dX6_sort_66 (Nat.le_of_ble_eq_true rfl) (by decide) ?_
                rintro _ _ ⟨rfl, rfl⟩
                refine r_if_ne_b (pc := 69) C (tgt := 74) dX6_sort_69 (by decide) (fun c_69 => ?_) (fun c_69 => ?_)
                · have hok : (cd2 ((0 ≤ x ∧ x ≤ 3) ∧ (0 ≤ (nI i) ∧ (nI i) < nI nr)) (σ 69 i = 0 ∧ (σ 75 i >>> (x &&& 31)) &&& 1 = 0 ∧ σ 73 i < 3)) = 0 := cd2_t c_69
                  rw [hok]
                  obtain ⟨τ, hτ⟩ : ∃ τ, up σ 60 0 0 = τ := ⟨_, rfl⟩
                  rw [hτ]
                  obtain ⟨hm1, hm3, hm26, hm18, hnp, hnr, hng, hnb5, hb, hsc, hlc, hpa, hro, hof, hte⟩ := (hτ ▸ ML_up 0 hS : ML nr ng np nb τ)
                  obtain ⟨hP, hQ⟩ := c_69
                  obtain ⟨hP1, hP2⟩ := hP
                  obtain ⟨j, hj, rfl⟩ := ul_s (n := 3) (by omega) hP1
                  rw [nI_clamp (by omega)]
                  obtain ⟨c3, hc3, hce⟩ := hsc i hi
                  have hq3 : τ 73 i < 3 := by rw [← hτ]; exact hQ.2.2
                  have hc4 : c3 < 3 := by rw [hce] at hq3; exact (nI_ltI (by omega) (by decide)).mp hq3
                  rw [show (τ 73 i).toNatClampNeg = c3 by rw [hce, nI_clamp (by omega)]]
                  refine r_aload0 (pc := 74) C dX6_sort_74 ?_
                  refine gX6_19 (pc := 75) C hT dX6_sort_75 ?_
                  refine r_iload2 (pc := 78) C dX6_sort_78 ?_
                  refine a406 (pc := 79) C hT rfl (by omega) dX6_sort_79 ?_
                  refine r_aload0 (pc := 80) C dX6_sort_80 ?_
                  refine gX6_22 (pc := 81) C hT dX6_sort_81 ?_
                  refine r_iload2 (pc := 84) C dX6_sort_84 ?_
                  refine a407 (pc := 85) C hT rfl (by omega) dX6_sort_85 ?_
                  refine r_iadd (pc := 86) C dX6_sort_86 ?_
                  refine r_aload0 (pc := 87) C dX6_sort_87 ?_
                  refine gX6_49 (pc := 88) C hT dX6_sort_88 ?_
                  refine r_iload1 (pc := 91) C dX6_sort_91 ?_
                  refine a416 (pc := 92) C hT rfl (by omega) dX6_sort_92 ?_
                  refine r_iadd (pc := 93) C dX6_sort_93 ?_
                  refine r_bipush (pc := 94) C (v := 18) dX6_sort_94 (by decide) ?_
                  refine kX6_135 (pc := 96) C (c_X6_within l D _ _ _ (by decide)) dX6_sort_96 (Nat.le_of_ble_eq_true rfl) (by decide) ?_
                  rintro _ _ ⟨rfl, rfl⟩
                  refine r_istore4 (pc := 99) C dX6_sort_99 ?_
                  refine r_aload0 (pc := 101) C dX6_sort_101 ?_
                  refine gX6_43 (pc := 102) C hT dX6_sort_102 ?_
                  refine r_iconst (pc := 105) C (v := 3) dX6_sort_105 (by decide) ?_
                  refine r_iload2 (pc := 106) C dX6_sort_106 ?_
                  refine r_imul (pc := 107) C dX6_sort_107 ?_
                  refine r_aload0 (pc := 108) C dX6_sort_108 ?_
                  refine gX6_40 (pc := 109) C hT dX6_sort_109 ?_
                  refine r_iload2 (pc := 112) C dX6_sort_112 ?_
                  refine a413 (pc := 113) C hT rfl (by omega) dX6_sort_113 ?_
                  refine r_iadd (pc := 114) C dX6_sort_114 ?_
                  refine r_iload4 (pc := 115) C dX6_sort_115 ?_
                  refine b414 (pc := 117) C hT (show (3 : Int32) * nI i + τ 73 i = nI (3 * i + c3) by rw [hce]; exact ix3n i c3) (by omega) dX6_sort_117 ?_
                  refine r_aload0 (pc := 118) C dX6_sort_118 ?_
                  refine gX6_40 (pc := 119) C hT dX6_sort_119 ?_
                  refine r_iload2 (pc := 122) C dX6_sort_122 ?_
                  refine r_dup2 (pc := 123) C dX6_sort_123 rfl rfl ?_
                  refine a413 (pc := 124) C hT rfl (by omega) dX6_sort_124 ?_
                  rw [show (up τ 74 (3 * i + c3) (mxI 0 (mnI 18 (τ 66 i + τ 67 i + τ 76 j)))) 73 i = τ 73 i from rfl]
                  refine r_iconst (pc := 125) C (v := 1) dX6_sort_125 (by decide) ?_
                  refine r_iadd (pc := 126) C dX6_sort_126 ?_
                  refine b413 (pc := 127) C hT rfl (by omega) dX6_sort_127 ?_
                  refine r_aload0 (pc := 128) C dX6_sort_128 ?_
                  refine gX6_46 (pc := 129) C hT dX6_sort_129 ?_
                  refine r_iload2 (pc := 132) C dX6_sort_132 ?_
                  refine r_dup2 (pc := 133) C dX6_sort_133 rfl rfl ?_
                  refine a415 (pc := 134) C hT rfl (by omega) dX6_sort_134 ?_
                  rw [show (up (up τ 74 (3 * i + c3) (mxI 0 (mnI 18 (τ 66 i + τ 67 i + τ 76 j)))) 73 i (τ 73 i + 1)) 75 i = τ 75 i from rfl]
                  refine r_iconst (pc := 135) C (v := 1) dX6_sort_135 (by decide) ?_
                  refine r_iload1 (pc := 136) C dX6_sort_136 ?_
                  refine r_ishl (pc := 137) C dX6_sort_137 ?_
                  refine r_ior (pc := 138) C dX6_sort_138 ?_
                  refine b415 (pc := 139) C hT rfl (by omega) dX6_sort_139 ?_
                  refine r_iload4 (pc := 140) C dX6_sort_140 ?_
                  exact r_iret C rfl dX6_sort_142 (by first | exact ⟨fun q => absurd q hno, fun _ => ⟨rfl, rfl⟩⟩ | exact ⟨fun _ => ⟨rfl, rfl⟩, fun q => absurd rfl q⟩) (by decide) (by decide)
                · have hno : ¬ (cd2 ((0 ≤ x ∧ x ≤ 3) ∧ (0 ≤ (nI i) ∧ (nI i) < nI nr)) (σ 69 i = 0 ∧ (σ 75 i >>> (x &&& 31)) &&& 1 = 0 ∧ σ 73 i < 3)) = 0 := cd2_f (by assumption)
                  refine r_iconst (pc := 72) C (v := 0) dX6_sort_72 (by decide) ?_
                  exact r_iret C rfl dX6_sort_73 (by first | exact ⟨fun q => absurd q hno, fun _ => ⟨rfl, rfl⟩⟩ | exact ⟨fun _ => ⟨rfl, rfl⟩, fun q => absurd rfl q⟩) (by decide) (by decide)
              · refine r_iconst (pc := 61) C (v := 1) dX6_sort_61 (by decide) ?_
                refine r_goto (pc := 62) C (tgt := 66) dX6_sort_62 (by decide) ?_
                refine kX6_124 (pc := 66) C (ask2 l D _ _ _ hT ((0 ≤ x ∧ x ≤ 3) ∧ (0 ≤ (nI i) ∧ (nI i) < nI nr)) (σ 69 i = 0 ∧ (σ 75 i >>> (x &&& 31)) &&& 1 = 0 ∧ σ 73 i < 3) (by first | rfl | exact (bI_t (by with_reducible assumption)).symm | exact (bI_f (by with_reducible assumption)).symm | exact bI_c (by grind) | exact (bI_t (by grind)).symm | exact (bI_f (by grind)).symm) (fun hP0 => by first | rfl | exact absurd hP0 (by with_reducible assumption) | (obtain ⟨hp1, hp2⟩ := hP0; first | exact absurd hp1 (by with_reducible assumption) | exact absurd hp2 (by with_reducible assumption)) | exact (bI_t (by with_reducible assumption)).symm | exact (bI_f (by with_reducible assumption)).symm | exact bI_c (by grind) | exact (bI_t (by grind)).symm | exact (bI_f (by grind)).symm)) (hT.f (by decide)) rfl dX6_sort_66 (Nat.le_of_ble_eq_true rfl) (by decide) ?_
                rintro _ _ ⟨rfl, rfl⟩
                refine r_if_ne_b (pc := 69) C (tgt := 74) dX6_sort_69 (by decide) (fun c_69 => ?_) (fun c_69 => ?_)
                · have hok : (cd2 ((0 ≤ x ∧ x ≤ 3) ∧ (0 ≤ (nI i) ∧ (nI i) < nI nr)) (σ 69 i = 0 ∧ (σ 75 i >>> (x &&& 31)) &&& 1 = 0 ∧ σ 73 i < 3)) = 0 := cd2_t c_69
                  rw [hok]
                  obtain ⟨τ, hτ⟩ : ∃ τ, up σ 60 0 0 = τ := ⟨_, rfl⟩
                  rw [hτ]
                  obtain ⟨hm1, hm3, hm26, hm18, hnp, hnr, hng, hnb5, hb, hsc, hlc, hpa, hro, hof, hte⟩ := (hτ ▸ ML_up 0 hS : ML nr ng np nb τ)
                  obtain ⟨hP, hQ⟩ := c_69
                  obtain ⟨hP1, hP2⟩ := hP
                  obtain ⟨j, hj, rfl⟩ := ul_s (n := 3) (by omega) hP1
                  rw [nI_clamp (by omega)]
                  obtain ⟨c3, hc3, hce⟩ := hsc i hi
                  have hq3 : τ 73 i < 3 := by rw [← hτ]; exact hQ.2.2
                  have hc4 : c3 < 3 := by rw [hce] at hq3; exact (nI_ltI (by omega) (by decide)).mp hq3
                  rw [show (τ 73 i).toNatClampNeg = c3 by rw [hce, nI_clamp (by omega)]]
                  refine r_aload0 (pc := 74) C dX6_sort_74 ?_
                  refine gX6_19 (pc := 75) C hT dX6_sort_75 ?_
                  refine r_iload2 (pc := 78) C dX6_sort_78 ?_
                  refine a406 (pc := 79) C hT rfl (by omega) dX6_sort_79 ?_
                  refine r_aload0 (pc := 80) C dX6_sort_80 ?_
                  refine gX6_22 (pc := 81) C hT dX6_sort_81 ?_
                  refine r_iload2 (pc := 84) C dX6_sort_84 ?_
                  refine a407 (pc := 85) C hT rfl (by omega) dX6_sort_85 ?_
                  refine r_iadd (pc := 86) C dX6_sort_86 ?_
                  refine r_aload0 (pc := 87) C dX6_sort_87 ?_
                  refine gX6_49 (pc := 88) C hT dX6_sort_88 ?_
                  refine r_iload1 (pc := 91) C dX6_sort_91 ?_
                  refine a416 (pc := 92) C hT rfl (by omega) dX6_sort_92 ?_
                  refine r_iadd (pc := 93) C dX6_sort_93 ?_
                  refine r_bipush (pc := 94) C (v := 18) dX6_sort_94 (by decide) ?_
                  refine kX6_135 (pc := 96) C (c_X6_within l D _ _ _ (by decide)) dX6_sort_96 (Nat.le_of_ble_eq_true rfl) (by decide) ?_
                  rintro _ _ ⟨rfl, rfl⟩
                  refine r_istore4 (pc := 99) C dX6_sort_99 ?_
                  refine r_aload0 (pc := 101) C dX6_sort_101 ?_
                  refine gX6_43 (pc := 102) C hT dX6_sort_102 ?_
                  refine r_iconst (pc := 105) C (v := 3) dX6_sort_105 (by decide) ?_
                  refine r_iload2 (pc := 106) C dX6_sort_106 ?_
                  refine r_imul (pc := 107) C dX6_sort_107 ?_
                  refine r_aload0 (pc := 108) C dX6_sort_108 ?_
                  refine gX6_40 (pc := 109) C hT dX6_sort_109 ?_
                  refine r_iload2 (pc := 112) C dX6_sort_112 ?_
                  refine a413 (pc := 113) C hT rfl (by omega) dX6_sort_113 ?_
                  refine r_iadd (pc := 114) C dX6_sort_114 ?_
                  refine r_iload4 (pc := 115) C dX6_sort_115 ?_
                  refine b414 (pc := 117) C hT (show (3 : Int32) * nI i + τ 73 i = nI (3 * i + c3) by rw [hce]; exact ix3n i c3) (by omega) dX6_sort_117 ?_
                  refine r_aload0 (pc := 118) C dX6_sort_118 ?_
                  refine gX6_40 (pc := 119) C hT dX6_sort_119 ?_
                  refine r_iload2 (pc := 122) C dX6_sort_122 ?_
                  refine r_dup2 (pc := 123) C dX6_sort_123 rfl rfl ?_
                  refine a413 (pc := 124) C hT rfl (by omega) dX6_sort_124 ?_
                  rw [show (up τ 74 (3 * i + c3) (mxI 0 (mnI 18 (τ 66 i + τ 67 i + τ 76 j)))) 73 i = τ 73 i from rfl]
                  refine r_iconst (pc := 125) C (v := 1) dX6_sort_125 (by decide) ?_
                  refine r_iadd (pc := 126) C dX6_sort_126 ?_
                  refine b413 (pc := 127) C hT rfl (by omega) dX6_sort_127 ?_
                  refine r_aload0 (pc := 128) C dX6_sort_128 ?_
                  refine gX6_46 (pc := 129) C hT dX6_sort_129 ?_
                  refine r_iload2 (pc := 132) C dX6_sort_132 ?_
                  refine r_dup2 (pc := 133) C dX6_sort_133 rfl rfl ?_
                  refine a415 (pc := 134) C hT rfl (by omega) dX6_sort_134 ?_
                  rw [show (up (up τ 74 (3 * i + c3) (mxI 0 (mnI 18 (τ 66 i + τ 67 i + τ 76 j)))) 73 i (τ 73 i + 1)) 75 i = τ 75 i from rfl]
                  refine r_iconst (pc := 135) C (v := 1) dX6_sort_135 (by decide) ?_
                  refine r_iload1 (pc := 136) C dX6_sort_136 ?_
                  refine r_ishl (pc := 137) C dX6_sort_137 ?_
                  refine r_ior (pc := 138) C dX6_sort_138 ?_
                  refine b415 (pc := 139) C hT rfl (by omega) dX6_sort_139 ?_
                  refine r_iload4 (pc := 140) C dX6_sort_140 ?_
                  exact r_iret C rfl dX6_sort_142 (by first | exact ⟨fun q => absurd q hno, fun _ => ⟨rfl, rfl⟩⟩ | exact ⟨fun _ => ⟨rfl, rfl⟩, fun q => absurd rfl q⟩) (by decide) (by decide)
                · have hno : ¬ (cd2 ((0 ≤ x ∧ x ≤ 3) ∧ (0 ≤ (nI i) ∧ (nI i) < nI nr)) (σ 69 i = 0 ∧ (σ 75 i >>> (x &&& 31)) &&& 1 = 0 ∧ σ 73 i < 3)) = 0 := cd2_f (by assumption)
                  refine r_iconst (pc := 72) C (v := 0) dX6_sort_72 (by decide) ?_
                  exact r_iret C rfl dX6_sort_73 (by first | exact ⟨fun q => absurd q hno, fun _ => ⟨rfl, rfl⟩⟩ | exact ⟨fun _ => ⟨rfl, rfl⟩, fun q => absurd rfl q⟩) (by decide) (by decide)
  · refine r_iload1 (pc := 0) C dX6_sort_0 ?_
    refine r_iconst (pc := 1) C (v := 0) dX6_sort_1 (by decide) ?_
    refine r_iconst (pc := 2) C (v := 3) dX6_sort_2 (by decide) ?_
    refine kX6_114 (pc := 3) C (c_X6_in l D _ _ _ _) dX6_sort_3 (Nat.le_of_ble_eq_true rfl) (by decide) ?_
    rintro _ _ ⟨rfl, rfl⟩
    refine r_if_eq_b (pc := 6) C (tgt := 21) dX6_sort_6 (by decide) (fun c_6 => ?_) (fun c_6 => ?_)
    · refine r_iconst (pc := 21) C (v := 0) dX6_sort_21 (by decide) ?_
      refine r_istore3 (pc := 22) C dX6_sort_22 ?_
      refine r_aload0 (pc := 23) C dX6_sort_23 ?_
      refine r_iload3 (pc := 24) C dX6_sort_24 ?_
      refine r_iload3 (pc := 25) C dX6_sort_25 ?_
      refine r_if_eq (pc := 26) C (tgt := 65) dX6_sort_26 (by decide) (fun c_26 => ?_) (fun c_26 => ?_)
      · refine r_iconst (pc := 65) C (v := 0) dX6_sort_65 (by decide) ?_
        refine kX6_124 (pc := 66) C (ask2 l D _ _ _ hT ((0 ≤ x ∧ x ≤ 3) ∧ (0 ≤ y ∧ y < nI nr)) (σ 69 y.toNatClampNeg = 0 ∧ (σ 75 y.toNatClampNeg >>> (x &&& 31)) &&& 1 = 0 ∧ σ 73 y.toNatClampNeg < 3) (by first | rfl | exact (bI_t (by with_reducible assumption)).symm | exact (bI_f (by with_reducible assumption)).symm | exact bI_c (by grind) | exact (bI_t (by grind)).symm | exact (bI_f (by grind)).symm) (fun hP0 => by first | rfl | exact absurd hP0 (by with_reducible assumption) | (obtain ⟨hp1, hp2⟩ := hP0; first | exact absurd hp1 (by with_reducible assumption) | exact absurd hp2 (by with_reducible assumption)) | exact (bI_t (by with_reducible assumption)).symm | exact (bI_f (by with_reducible assumption)).symm | exact bI_c (by grind) | exact (bI_t (by grind)).symm | exact (bI_f (by grind)).symm)) (hT.f (by decide)) rfl dX6_sort_66 (Nat.le_of_ble_eq_true rfl) (by decide) ?_
        rintro _ _ ⟨rfl, rfl⟩
        refine r_if_ne_b (pc := 69) C (tgt := 74) dX6_sort_69 (by decide) (fun c_69 => ?_) (fun c_69 => ?_)
        · first | exact absurd c_69.1 h_y | exact absurd c_69.1.2 h_y | exact absurd c_69.1.1 h_y | (exfalso; grind)
        · have hno : ¬ (cd2 ((0 ≤ x ∧ x ≤ 3) ∧ (0 ≤ y ∧ y < nI nr)) (σ 69 y.toNatClampNeg = 0 ∧ (σ 75 y.toNatClampNeg >>> (x &&& 31)) &&& 1 = 0 ∧ σ 73 y.toNatClampNeg < 3)) = 0 := cd2_f (by assumption)
          refine r_iconst (pc := 72) C (v := 0) dX6_sort_72 (by decide) ?_
          exact r_iret C rfl dX6_sort_73 (by first | exact ⟨fun q => absurd q hno, fun _ => ⟨rfl, rfl⟩⟩ | exact ⟨fun _ => ⟨rfl, rfl⟩, fun q => absurd rfl q⟩) (by decide) (by decide)
      · exact absurd rfl c_26
    · refine r_aload0 (pc := 9) C dX6_sort_9 ?_
      refine r_iload2 (pc := 10) C dX6_sort_10 ?_
      refine kX6_131 (pc := 11) C (c_X6_isStone l D _ _ _ hT _ hm3) (hT.f (by decide)) rfl dX6_sort_11 (Nat.le_of_ble_eq_true rfl) (by decide) ?_
      rintro _ _ ⟨rfl, rfl⟩
      refine r_if_eq_b (pc := 14) C (tgt := 21) dX6_sort_14 (by decide) (fun c_14 => ?_) (fun c_14 => ?_)
      · refine r_iconst (pc := 21) C (v := 0) dX6_sort_21 (by decide) ?_
        refine r_istore3 (pc := 22) C dX6_sort_22 ?_
        refine r_aload0 (pc := 23) C dX6_sort_23 ?_
        refine r_iload3 (pc := 24) C dX6_sort_24 ?_
        refine r_iload3 (pc := 25) C dX6_sort_25 ?_
        refine r_if_eq (pc := 26) C (tgt := 65) dX6_sort_26 (by decide) (fun c_26 => ?_) (fun c_26 => ?_)
        · refine r_iconst (pc := 65) C (v := 0) dX6_sort_65 (by decide) ?_
          refine kX6_124 (pc := 66) C (ask2 l D _ _ _ hT ((0 ≤ x ∧ x ≤ 3) ∧ (0 ≤ y ∧ y < nI nr)) (σ 69 y.toNatClampNeg = 0 ∧ (σ 75 y.toNatClampNeg >>> (x &&& 31)) &&& 1 = 0 ∧ σ 73 y.toNatClampNeg < 3) (by first | rfl | exact (bI_t (by with_reducible assumption)).symm | exact (bI_f (by with_reducible assumption)).symm | exact bI_c (by grind) | exact (bI_t (by grind)).symm | exact (bI_f (by grind)).symm) (fun hP0 => by first | rfl | exact absurd hP0 (by with_reducible assumption) | (obtain ⟨hp1, hp2⟩ := hP0; first | exact absurd hp1 (by with_reducible assumption) | exact absurd hp2 (by with_reducible assumption)) | exact (bI_t (by with_reducible assumption)).symm | exact (bI_f (by with_reducible assumption)).symm | exact bI_c (by grind) | exact (bI_t (by grind)).symm | exact (bI_f (by grind)).symm)) (hT.f (by decide)) rfl dX6_sort_66 (Nat.le_of_ble_eq_true rfl) (by decide) ?_
          rintro _ _ ⟨rfl, rfl⟩
          refine r_if_ne_b (pc := 69) C (tgt := 74) dX6_sort_69 (by decide) (fun c_69 => ?_) (fun c_69 => ?_)
          · first | exact absurd c_69.1 h_y | exact absurd c_69.1.2 h_y | exact absurd c_69.1.1 h_y | (exfalso; grind)
          · have hno : ¬ (cd2 ((0 ≤ x ∧ x ≤ 3) ∧ (0 ≤ y ∧ y < nI nr)) (σ 69 y.toNatClampNeg = 0 ∧ (σ 75 y.toNatClampNeg >>> (x &&& 31)) &&& 1 = 0 ∧ σ 73 y.toNatClampNeg < 3)) = 0 := cd2_f (by assumption)
            refine r_iconst (pc := 72) C (v := 0) dX6_sort_72 (by decide) ?_
            exact r_iret C rfl dX6_sort_73 (by first | exact ⟨fun q => absurd q hno, fun _ => ⟨rfl, rfl⟩⟩ | exact ⟨fun _ => ⟨rfl, rfl⟩, fun q => absurd rfl q⟩) (by decide) (by decide)
        · exact absurd rfl c_26
      · exact absurd c_14 h_y

set_option maxRecDepth 100000 in
set_option maxHeartbeats 4000000 in
theorem c_X6_look (l : Launch) (D : Gt) (T : List Nat) (ad : Nat → Nat) (σ : Mm) {nr ng : Nat} (hT : TG nr ng T) {np nb : Nat} (hM : ML nr ng np nb σ) (hlk : ∀ j, bd18 (σ 94 j)) (x y : Int32) : KI D l yX6_look (uws yX6_look cX6_look 5 (some .int)) (RM 7 0 0) [.ref (ad 400), .int x, .int y] (T, ad, cO D ad σ) (fun r S1 => ((cd2 ((0 ≤ x ∧ x ≤ 2) ∧ (0 ≤ y ∧ y < nI ng)) ((σ 95 y.toNatClampNeg >>> (x &&& 31)) &&& 1 = 0 ∧ gradeM σ y.toNatClampNeg = -1)) = 0 → r = (mxI 0 (mnI 9 ((up σ 60 0 0) 67 ((up σ 60 0 0) 87 y.toNatClampNeg).toNatClampNeg + (up σ 60 0 0) 96 x.toNatClampNeg))) ∧ S1 = (T, ad, cO D ad (up (up (up (up σ 60 0 0) 94 (3 * y.toNatClampNeg + ((up σ 60 0 0) 93 y.toNatClampNeg).toNatClampNeg) (mxI 0 (mnI 9 ((up σ 60 0 0) 67 ((up σ 60 0 0) 87 y.toNatClampNeg).toNatClampNeg + (up σ 60 0 0) 96 x.toNatClampNeg)))) 93 y.toNatClampNeg ((up σ 60 0 0) 93 y.toNatClampNeg + 1)) 95 y.toNatClampNeg ((up σ 60 0 0) 95 y.toNatClampNeg ||| ((1 : Int32) <<< (x &&& 31)))))) ∧ (¬ (cd2 ((0 ≤ x ∧ x ≤ 2) ∧ (0 ≤ y ∧ y < nI ng)) ((σ 95 y.toNatClampNeg >>> (x &&& 31)) &&& 1 = 0 ∧ gradeM σ y.toNatClampNeg = -1)) = 0 → r = 0 ∧ S1 = (T, ad, cO D ad (up σ 60 0 (cd2 ((0 ≤ x ∧ x ≤ 2) ∧ (0 ≤ y ∧ y < nI ng)) ((σ 95 y.toNatClampNeg >>> (x &&& 31)) &&& 1 = 0 ∧ gradeM σ y.toNatClampNeg = -1)))))) (nX) 0 0 := by
  refine KI_of (own := RX6) (L0 := [some (.ref (ad 400)), some (.int x), some (.int y), none, none]) (by decide +kernel) rfl (catc rfl (catc rfl (catc rfl cat0))) (Nat.le_of_ble_eq_true rfl) rfl ?_
  intro p e s m args below meth c A hnm C
  have hS := hM
  obtain ⟨hm1, hm3, hm26, hm18, hnp, hnr, hng, hnb5, hb, hsc, hlc, hpa, hro, hof, hte⟩ := hM
  by_cases h_y : 0 ≤ y ∧ y < nI ng
  · obtain ⟨i, hi, rfl⟩ := ix_of (N := ng) (by omega) h_y
    rw [nI_clamp (by omega)]
    refine r_iload1 (pc := 0) C dX6_look_0 ?_
    refine r_iconst (pc := 1) C (v := 0) dX6_look_1 (by decide) ?_
    refine r_iconst (pc := 2) C (v := 2) dX6_look_2 (by decide) ?_
    refine kX6_114 (pc := 3) C (c_X6_in l D _ _ _ _) dX6_look_3 (Nat.le_of_ble_eq_true rfl) (by decide) ?_
    rintro _ _ ⟨rfl, rfl⟩
    refine r_if_eq_b (pc := 6) C (tgt := 21) dX6_look_6 (by decide) (fun c_6 => ?_) (fun c_6 => ?_)
    · refine r_iconst (pc := 21) C (v := 0) dX6_look_21 (by decide) ?_
      refine r_istore3 (pc := 22) C dX6_look_22 ?_
      refine r_aload0 (pc := 23) C dX6_look_23 ?_
      refine r_iload3 (pc := 24) C dX6_look_24 ?_
      refine r_iload3 (pc := 25) C dX6_look_25 ?_
      refine r_if_eq (pc := 26) C (tgt := 55) dX6_look_26 (by decide) (fun c_26 => ?_) (fun c_26 => ?_)
      · refine r_iconst (pc := 55) C (v := 0) dX6_look_55 (by decide) ?_
        refine kX6_124 (pc := 56) C (ask2 l D _ _ _ hT ((0 ≤ x ∧ x ≤ 2) ∧ (0 ≤ (nI i) ∧ (nI i) < nI ng)) ((σ 95 i >>> (x &&& 31)) &&& 1 = 0 ∧ gradeM σ i = -1) (by first | rfl | exact (bI_t (by assumption)).symm | exact (bI_f (by assumption)).symm | exact (bI_t ⟨by assumption, by assumption⟩).symm | exact (bI_t ⟨by assumption, by assumption, by assumption⟩).symm | exact (bI_f (by rintro ⟨h1, h2⟩; first | exact absurd h1 (by assumption) | exact absurd h2 (by assumption))).symm | exact (bI_f (by rintro ⟨h1, h2, h3⟩; first | exact absurd h2 (by assumption) | exact absurd h3 (by assumption))).symm | exact bI_c (by grind) | exact (bI_t (by grind)).symm | exact (bI_f (by grind)).symm) (fun hP0 => by first | rfl | exact absurd hP0 (by with_reducible assumption) | (obtain ⟨hp1, hp2⟩ := hP0; first | exact absurd hp1 (by with_reducible assumption) | exact absurd hp2 (by with_reducible assumption)) | exact (bI_t (by assumption)).symm | exact (bI_f (by assumption)).symm | exact (bI_t ⟨by assumption, by assumption⟩).symm | exact (bI_t ⟨by assumption, by assumption, by assumption⟩).symm | exact (bI_f (by rintro ⟨h1, h2⟩; first | exact absurd h1 (by assumption) | exact absurd h2 (by assumption))).symm | exact (bI_f (by rintro ⟨h1, h2, h3⟩; first | exact absurd h2 (by assumption) | exact absurd h3 (by assumption))).symm | exact bI_c (by grind) | exact (bI_t (by grind)).symm | exact (bI_f (by grind)).symm)) (hT.f (by decide)) rfl dX6_look_56 (Nat.le_of_ble_eq_true rfl) (by decide) ?_
        rintro _ _ ⟨rfl, rfl⟩
        refine r_if_ne_b (pc := 59) C (tgt := 64) dX6_look_59 (by decide) (fun c_59 => ?_) (fun c_59 => ?_)
        · have hok : (cd2 ((0 ≤ x ∧ x ≤ 2) ∧ (0 ≤ (nI i) ∧ (nI i) < nI ng)) ((σ 95 i >>> (x &&& 31)) &&& 1 = 0 ∧ gradeM σ i = -1)) = 0 := cd2_t c_59
          rw [hok]
          obtain ⟨τ, hτ⟩ : ∃ τ, up σ 60 0 0 = τ := ⟨_, rfl⟩
          rw [hτ]
          obtain ⟨hm1, hm3, hm26, hm18, hnp, hnr, hng, hnb5, hb, hsc, hlc, hpa, hro, hof, hte⟩ := (hτ ▸ ML_up 0 hS : ML nr ng np nb τ)
          obtain ⟨hP, hQ⟩ := c_59
          obtain ⟨hP1, hP2⟩ := hP
          obtain ⟨j, hj, rfl⟩ := ul_s (n := 2) (by omega) hP1
          rw [nI_clamp (by omega)]
          obtain ⟨c3, hc3, hce⟩ := hlc i hi
          have hc4 : c3 < 3 := by
            rcases (show c3 < 3 ∨ c3 = 3 by omega) with z | z
            · exact z
            · refine absurd hQ.2 ?_
              have h9 : σ 93 i = 3 := by
                have h8 : τ 93 i = σ 93 i := by rw [← hτ]; rfl
                rw [← h8, hce, z]; rfl
              unfold gradeM; rw [h9]; exact grade_3 (hlk _) (hlk _) (hlk _)
          obtain ⟨q, hq, hqx⟩ := hro i hi
          rw [show (τ 93 i).toNatClampNeg = c3 by rw [hce, nI_clamp (by omega)], show (τ 87 i).toNatClampNeg = q by rw [hqx, nI_clamp (by omega)]]
          refine r_aload0 (pc := 64) C dX6_look_64 ?_
          refine gX6_22 (pc := 65) C hT dX6_look_65 ?_
          refine r_aload0 (pc := 68) C dX6_look_68 ?_
          refine gX6_75 (pc := 69) C hT dX6_look_69 ?_
          refine r_iload2 (pc := 72) C dX6_look_72 ?_
          refine a427 (pc := 73) C hT rfl (by omega) dX6_look_73 ?_
          refine a407 (pc := 74) C hT hqx (by omega) dX6_look_74 ?_
          refine r_aload0 (pc := 75) C dX6_look_75 ?_
          refine gX6_102 (pc := 76) C hT dX6_look_76 ?_
          refine r_iload1 (pc := 79) C dX6_look_79 ?_
          refine a436 (pc := 80) C hT rfl (by omega) dX6_look_80 ?_
          refine r_iadd (pc := 81) C dX6_look_81 ?_
          refine r_bipush (pc := 82) C (v := 9) dX6_look_82 (by decide) ?_
          refine kX6_135 (pc := 84) C (c_X6_within l D _ _ _ (by decide)) dX6_look_84 (Nat.le_of_ble_eq_true rfl) (by decide) ?_
          rintro _ _ ⟨rfl, rfl⟩
          refine r_istore4 (pc := 87) C dX6_look_87 ?_
          refine r_aload0 (pc := 89) C dX6_look_89 ?_
          refine gX6_96 (pc := 90) C hT dX6_look_90 ?_
          refine r_iconst (pc := 93) C (v := 3) dX6_look_93 (by decide) ?_
          refine r_iload2 (pc := 94) C dX6_look_94 ?_
          refine r_imul (pc := 95) C dX6_look_95 ?_
          refine r_aload0 (pc := 96) C dX6_look_96 ?_
          refine gX6_93 (pc := 97) C hT dX6_look_97 ?_
          refine r_iload2 (pc := 100) C dX6_look_100 ?_
          refine a433 (pc := 101) C hT rfl (by omega) dX6_look_101 ?_
          refine r_iadd (pc := 102) C dX6_look_102 ?_
          refine r_iload4 (pc := 103) C dX6_look_103 ?_
          refine b434 (pc := 105) C hT (show (3 : Int32) * nI i + τ 93 i = nI (3 * i + c3) by rw [hce]; exact ix3n i c3) (by omega) dX6_look_105 ?_
          refine r_aload0 (pc := 106) C dX6_look_106 ?_
          refine gX6_93 (pc := 107) C hT dX6_look_107 ?_
          refine r_iload2 (pc := 110) C dX6_look_110 ?_
          refine r_dup2 (pc := 111) C dX6_look_111 rfl rfl ?_
          refine a433 (pc := 112) C hT rfl (by omega) dX6_look_112 ?_
          rw [show (up τ 94 (3 * i + c3) (mxI 0 (mnI 9 (τ 67 q + τ 96 j)))) 93 i = τ 93 i from rfl]
          refine r_iconst (pc := 113) C (v := 1) dX6_look_113 (by decide) ?_
          refine r_iadd (pc := 114) C dX6_look_114 ?_
          refine b433 (pc := 115) C hT rfl (by omega) dX6_look_115 ?_
          refine r_aload0 (pc := 116) C dX6_look_116 ?_
          refine gX6_99 (pc := 117) C hT dX6_look_117 ?_
          refine r_iload2 (pc := 120) C dX6_look_120 ?_
          refine r_dup2 (pc := 121) C dX6_look_121 rfl rfl ?_
          refine a435 (pc := 122) C hT rfl (by omega) dX6_look_122 ?_
          rw [show (up (up τ 94 (3 * i + c3) (mxI 0 (mnI 9 (τ 67 q + τ 96 j)))) 93 i (τ 93 i + 1)) 95 i = τ 95 i from rfl]
          refine r_iconst (pc := 123) C (v := 1) dX6_look_123 (by decide) ?_
          refine r_iload1 (pc := 124) C dX6_look_124 ?_
          refine r_ishl (pc := 125) C dX6_look_125 ?_
          refine r_ior (pc := 126) C dX6_look_126 ?_
          refine b435 (pc := 127) C hT rfl (by omega) dX6_look_127 ?_
          refine r_iload4 (pc := 128) C dX6_look_128 ?_
          exact r_iret C rfl dX6_look_130 (by first | exact ⟨fun q => absurd q hno, fun _ => ⟨rfl, rfl⟩⟩ | exact ⟨fun _ => ⟨rfl, rfl⟩, fun q => absurd rfl q⟩) (by decide) (by decide)
        · have hno : ¬ (cd2 ((0 ≤ x ∧ x ≤ 2) ∧ (0 ≤ (nI i) ∧ (nI i) < nI ng)) ((σ 95 i >>> (x &&& 31)) &&& 1 = 0 ∧ gradeM σ i = -1)) = 0 := cd2_f (by assumption)
          refine r_iconst (pc := 62) C (v := 0) dX6_look_62 (by decide) ?_
          exact r_iret C rfl dX6_look_63 (by first | exact ⟨fun q => absurd q hno, fun _ => ⟨rfl, rfl⟩⟩ | exact ⟨fun _ => ⟨rfl, rfl⟩, fun q => absurd rfl q⟩) (by decide) (by decide)
      · refine r_aload0 (pc := 29) C dX6_look_29 ?_
        refine gX6_99 (pc := 30) C hT dX6_look_30 ?_
        refine r_iload2 (pc := 33) C dX6_look_33 ?_
        refine a435 (pc := 34) C hT rfl (by omega) dX6_look_34 ?_
        refine r_iload1 (pc := 35) C dX6_look_35 ?_
        refine r_ishr (pc := 36) C dX6_look_36 ?_
        refine r_iconst (pc := 37) C (v := 1) dX6_look_37 (by decide) ?_
        refine r_iand (pc := 38) C dX6_look_38 ?_
        refine r_if_ne (pc := 39) C (tgt := 55) dX6_look_39 (by decide) (fun c_39 => ?_) (fun c_39 => ?_)
        · refine r_iconst (pc := 55) C (v := 0) dX6_look_55 (by decide) ?_
          refine kX6_124 (pc := 56) C (ask2 l D _ _ _ hT ((0 ≤ x ∧ x ≤ 2) ∧ (0 ≤ (nI i) ∧ (nI i) < nI ng)) ((σ 95 i >>> (x &&& 31)) &&& 1 = 0 ∧ gradeM σ i = -1) (by first | rfl | exact (bI_t (by assumption)).symm | exact (bI_f (by assumption)).symm | exact (bI_t ⟨by assumption, by assumption⟩).symm | exact (bI_t ⟨by assumption, by assumption, by assumption⟩).symm | exact (bI_f (by rintro ⟨h1, h2⟩; first | exact absurd h1 (by assumption) | exact absurd h2 (by assumption))).symm | exact (bI_f (by rintro ⟨h1, h2, h3⟩; first | exact absurd h2 (by assumption) | exact absurd h3 (by assumption))).symm | exact bI_c (by grind) | exact (bI_t (by grind)).symm | exact (bI_f (by grind)).symm) (fun hP0 => by first | rfl | exact absurd hP0 (by with_reducible assumption) | (obtain ⟨hp1, hp2⟩ := hP0; first | exact absurd hp1 (by with_reducible assumption) | exact absurd hp2 (by with_reducible assumption)) | exact (bI_t (by assumption)).symm | exact (bI_f (by assumption)).symm | exact (bI_t ⟨by assumption, by assumption⟩).symm | exact (bI_t ⟨by assumption, by assumption, by assumption⟩).symm | exact (bI_f (by rintro ⟨h1, h2⟩; first | exact absurd h1 (by assumption) | exact absurd h2 (by assumption))).symm | exact (bI_f (by rintro ⟨h1, h2, h3⟩; first | exact absurd h2 (by assumption) | exact absurd h3 (by assumption))).symm | exact bI_c (by grind) | exact (bI_t (by grind)).symm | exact (bI_f (by grind)).symm)) (hT.f (by decide)) rfl dX6_look_56 (Nat.le_of_ble_eq_true rfl) (by decide) ?_
          rintro _ _ ⟨rfl, rfl⟩
          refine r_if_ne_b (pc := 59) C (tgt := 64) dX6_look_59 (by decide) (fun c_59 => ?_) (fun c_59 => ?_)
          · have hok : (cd2 ((0 ≤ x ∧ x ≤ 2) ∧ (0 ≤ (nI i) ∧ (nI i) < nI ng)) ((σ 95 i >>> (x &&& 31)) &&& 1 = 0 ∧ gradeM σ i = -1)) = 0 := cd2_t c_59
            rw [hok]
            obtain ⟨τ, hτ⟩ : ∃ τ, up σ 60 0 0 = τ := ⟨_, rfl⟩
            rw [hτ]
            obtain ⟨hm1, hm3, hm26, hm18, hnp, hnr, hng, hnb5, hb, hsc, hlc, hpa, hro, hof, hte⟩ := (hτ ▸ ML_up 0 hS : ML nr ng np nb τ)
            obtain ⟨hP, hQ⟩ := c_59
            obtain ⟨hP1, hP2⟩ := hP
            obtain ⟨j, hj, rfl⟩ := ul_s (n := 2) (by omega) hP1
            rw [nI_clamp (by omega)]
            obtain ⟨c3, hc3, hce⟩ := hlc i hi
            have hc4 : c3 < 3 := by
              rcases (show c3 < 3 ∨ c3 = 3 by omega) with z | z
              · exact z
              · refine absurd hQ.2 ?_
                have h9 : σ 93 i = 3 := by
                  have h8 : τ 93 i = σ 93 i := by rw [← hτ]; rfl
                  rw [← h8, hce, z]; rfl
                unfold gradeM; rw [h9]; exact grade_3 (hlk _) (hlk _) (hlk _)
            obtain ⟨q, hq, hqx⟩ := hro i hi
            rw [show (τ 93 i).toNatClampNeg = c3 by rw [hce, nI_clamp (by omega)], show (τ 87 i).toNatClampNeg = q by rw [hqx, nI_clamp (by omega)]]
            refine r_aload0 (pc := 64) C dX6_look_64 ?_
            refine gX6_22 (pc := 65) C hT dX6_look_65 ?_
            refine r_aload0 (pc := 68) C dX6_look_68 ?_
            refine gX6_75 (pc := 69) C hT dX6_look_69 ?_
            refine r_iload2 (pc := 72) C dX6_look_72 ?_
            refine a427 (pc := 73) C hT rfl (by omega) dX6_look_73 ?_
            refine a407 (pc := 74) C hT hqx (by omega) dX6_look_74 ?_
            refine r_aload0 (pc := 75) C dX6_look_75 ?_
            refine gX6_102 (pc := 76) C hT dX6_look_76 ?_
            refine r_iload1 (pc := 79) C dX6_look_79 ?_
            refine a436 (pc := 80) C hT rfl (by omega) dX6_look_80 ?_
            refine r_iadd (pc := 81) C dX6_look_81 ?_
            refine r_bipush (pc := 82) C (v := 9) dX6_look_82 (by decide) ?_
            refine kX6_135 (pc := 84) C (c_X6_within l D _ _ _ (by decide)) dX6_look_84 (Nat.le_of_ble_eq_true rfl) (by decide) ?_
            rintro _ _ ⟨rfl, rfl⟩
            refine r_istore4 (pc := 87) C dX6_look_87 ?_
            refine r_aload0 (pc := 89) C dX6_look_89 ?_
            refine gX6_96 (pc := 90) C hT dX6_look_90 ?_
            refine r_iconst (pc := 93) C (v := 3) dX6_look_93 (by decide) ?_
            refine r_iload2 (pc := 94) C dX6_look_94 ?_
            refine r_imul (pc := 95) C dX6_look_95 ?_
            refine r_aload0 (pc := 96) C dX6_look_96 ?_
            refine gX6_93 (pc := 97) C hT dX6_look_97 ?_
            refine r_iload2 (pc := 100) C dX6_look_100 ?_
            refine a433 (pc := 101) C hT rfl (by omega) dX6_look_101 ?_
            refine r_iadd (pc := 102) C dX6_look_102 ?_
            refine r_iload4 (pc := 103) C dX6_look_103 ?_
            refine b434 (pc := 105) C hT (show (3 : Int32) * nI i + τ 93 i = nI (3 * i + c3) by rw [hce]; exact ix3n i c3) (by omega) dX6_look_105 ?_
            refine r_aload0 (pc := 106) C dX6_look_106 ?_
            refine gX6_93 (pc := 107) C hT dX6_look_107 ?_
            refine r_iload2 (pc := 110) C dX6_look_110 ?_
            refine r_dup2 (pc := 111) C dX6_look_111 rfl rfl ?_
            refine a433 (pc := 112) C hT rfl (by omega) dX6_look_112 ?_
            rw [show (up τ 94 (3 * i + c3) (mxI 0 (mnI 9 (τ 67 q + τ 96 j)))) 93 i = τ 93 i from rfl]
            refine r_iconst (pc := 113) C (v := 1) dX6_look_113 (by decide) ?_
            refine r_iadd (pc := 114) C dX6_look_114 ?_
            refine b433 (pc := 115) C hT rfl (by omega) dX6_look_115 ?_
            refine r_aload0 (pc := 116) C dX6_look_116 ?_
            refine gX6_99 (pc := 117) C hT dX6_look_117 ?_
            refine r_iload2 (pc := 120) C dX6_look_120 ?_
            refine r_dup2 (pc := 121) C dX6_look_121 rfl rfl ?_
            refine a435 (pc := 122) C hT rfl (by omega) dX6_look_122 ?_
            rw [show (up (up τ 94 (3 * i + c3) (mxI 0 (mnI 9 (τ 67 q + τ 96 j)))) 93 i (τ 93 i + 1)) 95 i = τ 95 i from rfl]
            refine r_iconst (pc := 123) C (v := 1) dX6_look_123 (by decide) ?_
            refine r_iload1 (pc := 124) C dX6_look_124 ?_
            refine r_ishl (pc := 125) C dX6_look_125 ?_
            refine r_ior (pc := 126) C dX6_look_126 ?_
            refine b435 (pc := 127) C hT rfl (by omega) dX6_look_127 ?_
            refine r_iload4 (pc := 128) C dX6_look_128 ?_
            exact r_iret C rfl dX6_look_130 (by first | exact ⟨fun q => absurd q hno, fun _ => ⟨rfl, rfl⟩⟩ | exact ⟨fun _ => ⟨rfl, rfl⟩, fun q => absurd rfl q⟩) (by decide) (by decide)
          · have hno : ¬ (cd2 ((0 ≤ x ∧ x ≤ 2) ∧ (0 ≤ (nI i) ∧ (nI i) < nI ng)) ((σ 95 i >>> (x &&& 31)) &&& 1 = 0 ∧ gradeM σ i = -1)) = 0 := cd2_f (by assumption)
            refine r_iconst (pc := 62) C (v := 0) dX6_look_62 (by decide) ?_
            exact r_iret C rfl dX6_look_63 (by first | exact ⟨fun q => absurd q hno, fun _ => ⟨rfl, rfl⟩⟩ | exact ⟨fun _ => ⟨rfl, rfl⟩, fun q => absurd rfl q⟩) (by decide) (by decide)
        · obtain ⟨c0, hc0, hce0⟩ := hlc i hi
          have hl3 : σ 93 i ≤ 3 := by rw [hce0]; exact (nI_leI (b := 3) (by omega) (by decide)).mpr hc0
          refine r_aload0 (pc := 42) C dX6_look_42 ?_
          refine r_iload2 (pc := 43) C dX6_look_43 ?_
          refine kX6_197 (pc := 44) C (c_X6_gradeOf l D _ _ _ hT (by omega) hl3) (hT.f (by decide)) rfl dX6_look_44 (Nat.le_of_ble_eq_true rfl) (by decide) ?_
          rintro _ _ ⟨rfl, rfl⟩
          refine r_iconst (pc := 47) C (v := (-1)) dX6_look_47 (by decide) ?_
          refine r_icmp_ne (pc := 48) C (tgt := 55) dX6_look_48 (by decide) (fun c_48 => ?_) (fun c_48 => ?_)
          · refine r_iconst (pc := 55) C (v := 0) dX6_look_55 (by decide) ?_
            refine kX6_124 (pc := 56) C (ask2 l D _ _ _ hT ((0 ≤ x ∧ x ≤ 2) ∧ (0 ≤ (nI i) ∧ (nI i) < nI ng)) ((σ 95 i >>> (x &&& 31)) &&& 1 = 0 ∧ gradeM σ i = -1) (by first | rfl | exact (bI_t (by assumption)).symm | exact (bI_f (by assumption)).symm | exact (bI_t ⟨by assumption, by assumption⟩).symm | exact (bI_t ⟨by assumption, by assumption, by assumption⟩).symm | exact (bI_f (by rintro ⟨h1, h2⟩; first | exact absurd h1 (by assumption) | exact absurd h2 (by assumption))).symm | exact (bI_f (by rintro ⟨h1, h2, h3⟩; first | exact absurd h2 (by assumption) | exact absurd h3 (by assumption))).symm | exact bI_c (by grind) | exact (bI_t (by grind)).symm | exact (bI_f (by grind)).symm) (fun hP0 => by first | rfl | exact absurd hP0 (by with_reducible assumption) | (obtain ⟨hp1, hp2⟩ := hP0; first | exact absurd hp1 (by with_reducible assumption) | exact absurd hp2 (by with_reducible assumption)) | exact (bI_t (by assumption)).symm | exact (bI_f (by assumption)).symm | exact (bI_t ⟨by assumption, by assumption⟩).symm | exact (bI_t ⟨by assumption, by assumption, by assumption⟩).symm | exact (bI_f (by rintro ⟨h1, h2⟩; first | exact absurd h1 (by assumption) | exact absurd h2 (by assumption))).symm | exact (bI_f (by rintro ⟨h1, h2, h3⟩; first | exact absurd h2 (by assumption) | exact absurd h3 (by assumption))).symm | exact bI_c (by grind) | exact (bI_t (by grind)).symm | exact (bI_f (by grind)).symm)) (hT.f (by decide)) rfl dX6_look_56 (Nat.le_of_ble_eq_true rfl) (by decide) ?_
            rintro _ _ ⟨rfl, rfl⟩
            refine r_if_ne_b (pc := 59) C (tgt := 64) dX6_look_59 (by decide) (fun c_59 => ?_) (fun c_59 => ?_)
            · have hok : (cd2 ((0 ≤ x ∧ x ≤ 2) ∧ (0 ≤ (nI i) ∧ (nI i) < nI ng)) ((σ 95 i >>> (x &&& 31)) &&& 1 = 0 ∧ gradeM σ i = -1)) = 0 := cd2_t c_59
              rw [hok]
              obtain ⟨τ, hτ⟩ : ∃ τ, up σ 60 0 0 = τ := ⟨_, rfl⟩
              rw [hτ]
              obtain ⟨hm1, hm3, hm26, hm18, hnp, hnr, hng, hnb5, hb, hsc, hlc, hpa, hro, hof, hte⟩ := (hτ ▸ ML_up 0 hS : ML nr ng np nb τ)
              obtain ⟨hP, hQ⟩ := c_59
              obtain ⟨hP1, hP2⟩ := hP
              obtain ⟨j, hj, rfl⟩ := ul_s (n := 2) (by omega) hP1
              rw [nI_clamp (by omega)]
              obtain ⟨c3, hc3, hce⟩ := hlc i hi
              have hc4 : c3 < 3 := by
                rcases (show c3 < 3 ∨ c3 = 3 by omega) with z | z
                · exact z
                · refine absurd hQ.2 ?_
                  have h9 : σ 93 i = 3 := by
                    have h8 : τ 93 i = σ 93 i := by rw [← hτ]; rfl
                    rw [← h8, hce, z]; rfl
                  unfold gradeM; rw [h9]; exact grade_3 (hlk _) (hlk _) (hlk _)
              obtain ⟨q, hq, hqx⟩ := hro i hi
              rw [show (τ 93 i).toNatClampNeg = c3 by rw [hce, nI_clamp (by omega)], show (τ 87 i).toNatClampNeg = q by rw [hqx, nI_clamp (by omega)]]
              refine r_aload0 (pc := 64) C dX6_look_64 ?_
              refine gX6_22 (pc := 65) C hT dX6_look_65 ?_
              refine r_aload0 (pc := 68) C dX6_look_68 ?_
              refine gX6_75 (pc := 69) C hT dX6_look_69 ?_
              refine r_iload2 (pc := 72) C dX6_look_72 ?_
              refine a427 (pc := 73) C hT rfl (by omega) dX6_look_73 ?_
              refine a407 (pc := 74) C hT hqx (by omega) dX6_look_74 ?_
              refine r_aload0 (pc := 75) C dX6_look_75 ?_
              refine gX6_102 (pc := 76) C hT dX6_look_76 ?_
              refine r_iload1 (pc := 79) C dX6_look_79 ?_
              refine a436 (pc := 80) C hT rfl (by omega) dX6_look_80 ?_
              refine r_iadd (pc := 81) C dX6_look_81 ?_
              refine r_bipush (pc := 82) C (v := 9) dX6_look_82 (by decide) ?_
              refine kX6_135 (pc := 84) C (c_X6_within l D _ _ _ (by decide)) dX6_look_84 (Nat.le_of_ble_eq_true rfl) (by decide) ?_
              rintro _ _ ⟨rfl, rfl⟩
              refine r_istore4 (pc := 87) C dX6_look_87 ?_
              refine r_aload0 (pc := 89) C dX6_look_89 ?_
              refine gX6_96 (pc := 90) C hT dX6_look_90 ?_
              refine r_iconst (pc := 93) C (v := 3) dX6_look_93 (by decide) ?_
              refine r_iload2 (pc := 94) C dX6_look_94 ?_
              refine r_imul (pc := 95) C dX6_look_95 ?_
              refine r_aload0 (pc := 96) C dX6_look_96 ?_
              refine gX6_93 (pc := 97) C hT dX6_look_97 ?_
              refine r_iload2 (pc := 100) C dX6_look_100 ?_
              refine a433 (pc := 101) C hT rfl (by omega) dX6_look_101 ?_
              refine r_iadd (pc := 102) C dX6_look_102 ?_
              refine r_iload4 (pc := 103) C dX6_look_103 ?_
              refine b434 (pc := 105) C hT (show (3 : Int32) * nI i + τ 93 i = nI (3 * i + c3) by rw [hce]; exact ix3n i c3) (by omega) dX6_look_105 ?_
              refine r_aload0 (pc := 106) C dX6_look_106 ?_
              refine gX6_93 (pc := 107) C hT dX6_look_107 ?_
              refine r_iload2 (pc := 110) C dX6_look_110 ?_
              refine r_dup2 (pc := 111) C dX6_look_111 rfl rfl ?_
              refine a433 (pc := 112) C hT rfl (by omega) dX6_look_112 ?_
              rw [show (up τ 94 (3 * i + c3) (mxI 0 (mnI 9 (τ 67 q + τ 96 j)))) 93 i = τ 93 i from rfl]
              refine r_iconst (pc := 113) C (v := 1) dX6_look_113 (by decide) ?_
              refine r_iadd (pc := 114) C dX6_look_114 ?_
              refine b433 (pc := 115) C hT rfl (by omega) dX6_look_115 ?_
              refine r_aload0 (pc := 116) C dX6_look_116 ?_
              refine gX6_99 (pc := 117) C hT dX6_look_117 ?_
              refine r_iload2 (pc := 120) C dX6_look_120 ?_
              refine r_dup2 (pc := 121) C dX6_look_121 rfl rfl ?_
              refine a435 (pc := 122) C hT rfl (by omega) dX6_look_122 ?_
              rw [show (up (up τ 94 (3 * i + c3) (mxI 0 (mnI 9 (τ 67 q + τ 96 j)))) 93 i (τ 93 i + 1)) 95 i = τ 95 i from rfl]
              refine r_iconst (pc := 123) C (v := 1) dX6_look_123 (by decide) ?_
              refine r_iload1 (pc := 124) C dX6_look_124 ?_
              refine r_ishl (pc := 125) C dX6_look_125 ?_
              refine r_ior (pc := 126) C dX6_look_126 ?_
              refine b435 (pc := 127) C hT rfl (by omega) dX6_look_127 ?_
              refine r_iload4 (pc := 128) C dX6_look_128 ?_
              exact r_iret C rfl dX6_look_130 (by first | exact ⟨fun q => absurd q hno, fun _ => ⟨rfl, rfl⟩⟩ | exact ⟨fun _ => ⟨rfl, rfl⟩, fun q => absurd rfl q⟩) (by decide) (by decide)
            · have hno : ¬ (cd2 ((0 ≤ x ∧ x ≤ 2) ∧ (0 ≤ (nI i) ∧ (nI i) < nI ng)) ((σ 95 i >>> (x &&& 31)) &&& 1 = 0 ∧ gradeM σ i = -1)) = 0 := cd2_f (by assumption)
              refine r_iconst (pc := 62) C (v := 0) dX6_look_62 (by decide) ?_
              exact r_iret C rfl dX6_look_63 (by first | exact ⟨fun q => absurd q hno, fun _ => ⟨rfl, rfl⟩⟩ | exact ⟨fun _ => ⟨rfl, rfl⟩, fun q => absurd rfl q⟩) (by decide) (by decide)
          · refine r_iconst (pc := 51) C (v := 1) dX6_look_51 (by decide) ?_
            refine r_goto (pc := 52) C (tgt := 56) dX6_look_52 (by decide) ?_
            refine kX6_124 (pc := 56) C (ask2 l D _ _ _ hT ((0 ≤ x ∧ x ≤ 2) ∧ (0 ≤ (nI i) ∧ (nI i) < nI ng)) ((σ 95 i >>> (x &&& 31)) &&& 1 = 0 ∧ gradeM σ i = -1) (by first | rfl | exact (bI_t (by assumption)).symm | exact (bI_f (by assumption)).symm | exact (bI_t ⟨by assumption, by assumption⟩).symm | exact (bI_t ⟨by assumption, by assumption, by assumption⟩).symm | exact (bI_f (by rintro ⟨h1, h2⟩; first | exact absurd h1 (by assumption) | exact absurd h2 (by assumption))).symm | exact (bI_f (by rintro ⟨h1, h2, h3⟩; first | exact absurd h2 (by assumption) | exact absurd h3 (by assumption))).symm | exact bI_c (by grind) | exact (bI_t (by grind)).symm | exact (bI_f (by grind)).symm) (fun hP0 => by first | rfl | exact absurd hP0 (by with_reducible assumption) | (obtain ⟨hp1, hp2⟩ := hP0; first | exact absurd hp1 (by with_reducible assumption) | exact absurd hp2 (by with_reducible assumption)) | exact (bI_t (by assumption)).symm | exact (bI_f (by assumption)).symm | exact (bI_t ⟨by assumption, by assumption⟩).symm | exact (bI_t ⟨by assumption, by assumption, by assumption⟩).symm | exact (bI_f (by rintro ⟨h1, h2⟩; first | exact absurd h1 (by assumption) | exact absurd h2 (by assumption))).symm | exact (bI_f (by rintro ⟨h1, h2, h3⟩; first | exact absurd h2 (by assumption) | exact absurd h3 (by assumption))).symm | exact bI_c (by grind) | exact (bI_t (by grind)).symm | exact (bI_f (by grind)).symm)) (hT.f (by decide)) rfl dX6_look_56 (Nat.le_of_ble_eq_true rfl) (by decide) ?_
            rintro _ _ ⟨rfl, rfl⟩
            refine r_if_ne_b (pc := 59) C (tgt := 64) dX6_look_59 (by decide) (fun c_59 => ?_) (fun c_59 => ?_)
            · have hok : (cd2 ((0 ≤ x ∧ x ≤ 2) ∧ (0 ≤ (nI i) ∧ (nI i) < nI ng)) ((σ 95 i >>> (x &&& 31)) &&& 1 = 0 ∧ gradeM σ i = -1)) = 0 := cd2_t c_59
              rw [hok]
              obtain ⟨τ, hτ⟩ : ∃ τ, up σ 60 0 0 = τ := ⟨_, rfl⟩
              rw [hτ]
              obtain ⟨hm1, hm3, hm26, hm18, hnp, hnr, hng, hnb5, hb, hsc, hlc, hpa, hro, hof, hte⟩ := (hτ ▸ ML_up 0 hS : ML nr ng np nb τ)
              obtain ⟨hP, hQ⟩ := c_59
              obtain ⟨hP1, hP2⟩ := hP
              obtain ⟨j, hj, rfl⟩ := ul_s (n := 2) (by omega) hP1
              rw [nI_clamp (by omega)]
              obtain ⟨c3, hc3, hce⟩ := hlc i hi
              have hc4 : c3 < 3 := by
                rcases (show c3 < 3 ∨ c3 = 3 by omega) with z | z
                · exact z
                · refine absurd hQ.2 ?_
                  have h9 : σ 93 i = 3 := by
                    have h8 : τ 93 i = σ 93 i := by rw [← hτ]; rfl
                    rw [← h8, hce, z]; rfl
                  unfold gradeM; rw [h9]; exact grade_3 (hlk _) (hlk _) (hlk _)
              obtain ⟨q, hq, hqx⟩ := hro i hi
              rw [show (τ 93 i).toNatClampNeg = c3 by rw [hce, nI_clamp (by omega)], show (τ 87 i).toNatClampNeg = q by rw [hqx, nI_clamp (by omega)]]
              refine r_aload0 (pc := 64) C dX6_look_64 ?_
              refine gX6_22 (pc := 65) C hT dX6_look_65 ?_
              refine r_aload0 (pc := 68) C dX6_look_68 ?_
              refine gX6_75 (pc := 69) C hT dX6_look_69 ?_
              refine r_iload2 (pc := 72) C dX6_look_72 ?_
              refine a427 (pc := 73) C hT rfl (by omega) dX6_look_73 ?_
              refine a407 (pc := 74) C hT hqx (by omega) dX6_look_74 ?_
              refine r_aload0 (pc := 75) C dX6_look_75 ?_
              refine gX6_102 (pc := 76) C hT dX6_look_76 ?_
              refine r_iload1 (pc := 79) C dX6_look_79 ?_
              refine a436 (pc := 80) C hT rfl (by omega) dX6_look_80 ?_
              refine r_iadd (pc := 81) C dX6_look_81 ?_
              refine r_bipush (pc := 82) C (v := 9) dX6_look_82 (by decide) ?_
              refine kX6_135 (pc := 84) C (c_X6_within l D _ _ _ (by decide)) dX6_look_84 (Nat.le_of_ble_eq_true rfl) (by decide) ?_
              rintro _ _ ⟨rfl, rfl⟩
              refine r_istore4 (pc := 87) C dX6_look_87 ?_
              refine r_aload0 (pc := 89) C dX6_look_89 ?_
              refine gX6_96 (pc := 90) C hT dX6_look_90 ?_
              refine r_iconst (pc := 93) C (v := 3) dX6_look_93 (by decide) ?_
              refine r_iload2 (pc := 94) C dX6_look_94 ?_
              refine r_imul (pc := 95) C dX6_look_95 ?_
              refine r_aload0 (pc := 96) C dX6_look_96 ?_
              refine gX6_93 (pc := 97) C hT dX6_look_97 ?_
              refine r_iload2 (pc := 100) C dX6_look_100 ?_
              refine a433 (pc := 101) C hT rfl (by omega) dX6_look_101 ?_
              refine r_iadd (pc := 102) C dX6_look_102 ?_
              refine r_iload4 (pc := 103) C dX6_look_103 ?_
              refine b434 (pc := 105) C hT (show (3 : Int32) * nI i + τ 93 i = nI (3 * i + c3) by rw [hce]; exact ix3n i c3) (by omega) dX6_look_105 ?_
              refine r_aload0 (pc := 106) C dX6_look_106 ?_
              refine gX6_93 (pc := 107) C hT dX6_look_107 ?_
              refine r_iload2 (pc := 110) C dX6_look_110 ?_
              refine r_dup2 (pc := 111) C dX6_look_111 rfl rfl ?_
              refine a433 (pc := 112) C hT rfl (by omega) dX6_look_112 ?_
              rw [show (up τ 94 (3 * i + c3) (mxI 0 (mnI 9 (τ 67 q + τ 96 j)))) 93 i = τ 93 i from rfl]
              refine r_iconst (pc := 113) C (v := 1) dX6_look_113 (by decide) ?_
              refine r_iadd (pc := 114) C dX6_look_114 ?_
              refine b433 (pc := 115) C hT rfl (by omega) dX6_look_115 ?_
              refine r_aload0 (pc := 116) C dX6_look_116 ?_
              refine gX6_99 (pc := 117) C hT dX6_look_117 ?_
              refine r_iload2 (pc := 120) C dX6_look_120 ?_
              refine r_dup2 (pc := 121) C dX6_look_121 rfl rfl ?_
              refine a435 (pc := 122) C hT rfl (by omega) dX6_look_122 ?_
              rw [show (up (up τ 94 (3 * i + c3) (mxI 0 (mnI 9 (τ 67 q + τ 96 j)))) 93 i (τ 93 i + 1)) 95 i = τ 95 i from rfl]
              refine r_iconst (pc := 123) C (v := 1) dX6_look_123 (by decide) ?_
              refine r_iload1 (pc := 124) C dX6_look_124 ?_
              refine r_ishl (pc := 125) C dX6_look_125 ?_
              refine r_ior (pc := 126) C dX6_look_126 ?_
              refine b435 (pc := 127) C hT rfl (by omega) dX6_look_127 ?_
              refine r_iload4 (pc := 128) C dX6_look_128 ?_
              exact r_iret C rfl dX6_look_130 (by first | exact ⟨fun q => absurd q hno, fun _ => ⟨rfl, rfl⟩⟩ | exact ⟨fun _ => ⟨rfl, rfl⟩, fun q => absurd rfl q⟩) (by decide) (by decide)
            · have hno : ¬ (cd2 ((0 ≤ x ∧ x ≤ 2) ∧ (0 ≤ (nI i) ∧ (nI i) < nI ng)) ((σ 95 i >>> (x &&& 31)) &&& 1 = 0 ∧ gradeM σ i = -1)) = 0 := cd2_f (by assumption)
              refine r_iconst (pc := 62) C (v := 0) dX6_look_62 (by decide) ?_
              exact r_iret C rfl dX6_look_63 (by first | exact ⟨fun q => absurd q hno, fun _ => ⟨rfl, rfl⟩⟩ | exact ⟨fun _ => ⟨rfl, rfl⟩, fun q => absurd rfl q⟩) (by decide) (by decide)
    · refine r_aload0 (pc := 9) C dX6_look_9 ?_
      refine r_iload2 (pc := 10) C dX6_look_10 ?_
      refine kX6_194 (pc := 11) C (c_X6_isPolished l D _ _ _ hT _ hm26) (hT.f (by decide)) rfl dX6_look_11 (Nat.le_of_ble_eq_true rfl) (by decide) ?_
      rintro _ _ ⟨rfl, rfl⟩
      refine r_if_eq_b (pc := 14) C (tgt := 21) dX6_look_14 (by decide) (fun c_14 => ?_) (fun c_14 => ?_)
      · refine r_iconst (pc := 21) C (v := 0) dX6_look_21 (by decide) ?_
        refine r_istore3 (pc := 22) C dX6_look_22 ?_
        refine r_aload0 (pc := 23) C dX6_look_23 ?_
        refine r_iload3 (pc := 24) C dX6_look_24 ?_
        refine r_iload3 (pc := 25) C dX6_look_25 ?_
        refine r_if_eq (pc := 26) C (tgt := 55) dX6_look_26 (by decide) (fun c_26 => ?_) (fun c_26 => ?_)
        · refine r_iconst (pc := 55) C (v := 0) dX6_look_55 (by decide) ?_
          refine kX6_124 (pc := 56) C (ask2 l D _ _ _ hT ((0 ≤ x ∧ x ≤ 2) ∧ (0 ≤ (nI i) ∧ (nI i) < nI ng)) ((σ 95 i >>> (x &&& 31)) &&& 1 = 0 ∧ gradeM σ i = -1) (by first | rfl | exact (bI_t (by assumption)).symm | exact (bI_f (by assumption)).symm | exact (bI_t ⟨by assumption, by assumption⟩).symm | exact (bI_t ⟨by assumption, by assumption, by assumption⟩).symm | exact (bI_f (by rintro ⟨h1, h2⟩; first | exact absurd h1 (by assumption) | exact absurd h2 (by assumption))).symm | exact (bI_f (by rintro ⟨h1, h2, h3⟩; first | exact absurd h2 (by assumption) | exact absurd h3 (by assumption))).symm | exact bI_c (by grind) | exact (bI_t (by grind)).symm | exact (bI_f (by grind)).symm) (fun hP0 => by first | rfl | exact absurd hP0 (by with_reducible assumption) | (obtain ⟨hp1, hp2⟩ := hP0; first | exact absurd hp1 (by with_reducible assumption) | exact absurd hp2 (by with_reducible assumption)) | exact (bI_t (by assumption)).symm | exact (bI_f (by assumption)).symm | exact (bI_t ⟨by assumption, by assumption⟩).symm | exact (bI_t ⟨by assumption, by assumption, by assumption⟩).symm | exact (bI_f (by rintro ⟨h1, h2⟩; first | exact absurd h1 (by assumption) | exact absurd h2 (by assumption))).symm | exact (bI_f (by rintro ⟨h1, h2, h3⟩; first | exact absurd h2 (by assumption) | exact absurd h3 (by assumption))).symm | exact bI_c (by grind) | exact (bI_t (by grind)).symm | exact (bI_f (by grind)).symm)) (hT.f (by decide)) rfl dX6_look_56 (Nat.le_of_ble_eq_true rfl) (by decide) ?_
          rintro _ _ ⟨rfl, rfl⟩
          refine r_if_ne_b (pc := 59) C (tgt := 64) dX6_look_59 (by decide) (fun c_59 => ?_) (fun c_59 => ?_)
          · have hok : (cd2 ((0 ≤ x ∧ x ≤ 2) ∧ (0 ≤ (nI i) ∧ (nI i) < nI ng)) ((σ 95 i >>> (x &&& 31)) &&& 1 = 0 ∧ gradeM σ i = -1)) = 0 := cd2_t c_59
            rw [hok]
            obtain ⟨τ, hτ⟩ : ∃ τ, up σ 60 0 0 = τ := ⟨_, rfl⟩
            rw [hτ]
            obtain ⟨hm1, hm3, hm26, hm18, hnp, hnr, hng, hnb5, hb, hsc, hlc, hpa, hro, hof, hte⟩ := (hτ ▸ ML_up 0 hS : ML nr ng np nb τ)
            obtain ⟨hP, hQ⟩ := c_59
            obtain ⟨hP1, hP2⟩ := hP
            obtain ⟨j, hj, rfl⟩ := ul_s (n := 2) (by omega) hP1
            rw [nI_clamp (by omega)]
            obtain ⟨c3, hc3, hce⟩ := hlc i hi
            have hc4 : c3 < 3 := by
              rcases (show c3 < 3 ∨ c3 = 3 by omega) with z | z
              · exact z
              · refine absurd hQ.2 ?_
                have h9 : σ 93 i = 3 := by
                  have h8 : τ 93 i = σ 93 i := by rw [← hτ]; rfl
                  rw [← h8, hce, z]; rfl
                unfold gradeM; rw [h9]; exact grade_3 (hlk _) (hlk _) (hlk _)
            obtain ⟨q, hq, hqx⟩ := hro i hi
            rw [show (τ 93 i).toNatClampNeg = c3 by rw [hce, nI_clamp (by omega)], show (τ 87 i).toNatClampNeg = q by rw [hqx, nI_clamp (by omega)]]
            refine r_aload0 (pc := 64) C dX6_look_64 ?_
            refine gX6_22 (pc := 65) C hT dX6_look_65 ?_
            refine r_aload0 (pc := 68) C dX6_look_68 ?_
            refine gX6_75 (pc := 69) C hT dX6_look_69 ?_
            refine r_iload2 (pc := 72) C dX6_look_72 ?_
            refine a427 (pc := 73) C hT rfl (by omega) dX6_look_73 ?_
            refine a407 (pc := 74) C hT hqx (by omega) dX6_look_74 ?_
            refine r_aload0 (pc := 75) C dX6_look_75 ?_
            refine gX6_102 (pc := 76) C hT dX6_look_76 ?_
            refine r_iload1 (pc := 79) C dX6_look_79 ?_
            refine a436 (pc := 80) C hT rfl (by omega) dX6_look_80 ?_
            refine r_iadd (pc := 81) C dX6_look_81 ?_
            refine r_bipush (pc := 82) C (v := 9) dX6_look_82 (by decide) ?_
            refine kX6_135 (pc := 84) C (c_X6_within l D _ _ _ (by decide)) dX6_look_84 (Nat.le_of_ble_eq_true rfl) (by decide) ?_
            rintro _ _ ⟨rfl, rfl⟩
            refine r_istore4 (pc := 87) C dX6_look_87 ?_
            refine r_aload0 (pc := 89) C dX6_look_89 ?_
            refine gX6_96 (pc := 90) C hT dX6_look_90 ?_
            refine r_iconst (pc := 93) C (v := 3) dX6_look_93 (by decide) ?_
            refine r_iload2 (pc := 94) C dX6_look_94 ?_
            refine r_imul (pc := 95) C dX6_look_95 ?_
            refine r_aload0 (pc := 96) C dX6_look_96 ?_
            refine gX6_93 (pc := 97) C hT dX6_look_97 ?_
            refine r_iload2 (pc := 100) C dX6_look_100 ?_
            refine a433 (pc := 101) C hT rfl (by omega) dX6_look_101 ?_
            refine r_iadd (pc := 102) C dX6_look_102 ?_
            refine r_iload4 (pc := 103) C dX6_look_103 ?_
            refine b434 (pc := 105) C hT (show (3 : Int32) * nI i + τ 93 i = nI (3 * i + c3) by rw [hce]; exact ix3n i c3) (by omega) dX6_look_105 ?_
            refine r_aload0 (pc := 106) C dX6_look_106 ?_
            refine gX6_93 (pc := 107) C hT dX6_look_107 ?_
            refine r_iload2 (pc := 110) C dX6_look_110 ?_
            refine r_dup2 (pc := 111) C dX6_look_111 rfl rfl ?_
            refine a433 (pc := 112) C hT rfl (by omega) dX6_look_112 ?_
            rw [show (up τ 94 (3 * i + c3) (mxI 0 (mnI 9 (τ 67 q + τ 96 j)))) 93 i = τ 93 i from rfl]
            refine r_iconst (pc := 113) C (v := 1) dX6_look_113 (by decide) ?_
            refine r_iadd (pc := 114) C dX6_look_114 ?_
            refine b433 (pc := 115) C hT rfl (by omega) dX6_look_115 ?_
            refine r_aload0 (pc := 116) C dX6_look_116 ?_
            refine gX6_99 (pc := 117) C hT dX6_look_117 ?_
            refine r_iload2 (pc := 120) C dX6_look_120 ?_
            refine r_dup2 (pc := 121) C dX6_look_121 rfl rfl ?_
            refine a435 (pc := 122) C hT rfl (by omega) dX6_look_122 ?_
            rw [show (up (up τ 94 (3 * i + c3) (mxI 0 (mnI 9 (τ 67 q + τ 96 j)))) 93 i (τ 93 i + 1)) 95 i = τ 95 i from rfl]
            refine r_iconst (pc := 123) C (v := 1) dX6_look_123 (by decide) ?_
            refine r_iload1 (pc := 124) C dX6_look_124 ?_
            refine r_ishl (pc := 125) C dX6_look_125 ?_
            refine r_ior (pc := 126) C dX6_look_126 ?_
            refine b435 (pc := 127) C hT rfl (by omega) dX6_look_127 ?_
            refine r_iload4 (pc := 128) C dX6_look_128 ?_
            exact r_iret C rfl dX6_look_130 (by first | exact ⟨fun q => absurd q hno, fun _ => ⟨rfl, rfl⟩⟩ | exact ⟨fun _ => ⟨rfl, rfl⟩, fun q => absurd rfl q⟩) (by decide) (by decide)
          · have hno : ¬ (cd2 ((0 ≤ x ∧ x ≤ 2) ∧ (0 ≤ (nI i) ∧ (nI i) < nI ng)) ((σ 95 i >>> (x &&& 31)) &&& 1 = 0 ∧ gradeM σ i = -1)) = 0 := cd2_f (by assumption)
            refine r_iconst (pc := 62) C (v := 0) dX6_look_62 (by decide) ?_
            exact r_iret C rfl dX6_look_63 (by first | exact ⟨fun q => absurd q hno, fun _ => ⟨rfl, rfl⟩⟩ | exact ⟨fun _ => ⟨rfl, rfl⟩, fun q => absurd rfl q⟩) (by decide) (by decide)
        · refine r_aload0 (pc := 29) C dX6_look_29 ?_
          refine gX6_99 (pc := 30) C hT dX6_look_30 ?_
          refine r_iload2 (pc := 33) C dX6_look_33 ?_
          refine a435 (pc := 34) C hT rfl (by omega) dX6_look_34 ?_
          refine r_iload1 (pc := 35) C dX6_look_35 ?_
          refine r_ishr (pc := 36) C dX6_look_36 ?_
          refine r_iconst (pc := 37) C (v := 1) dX6_look_37 (by decide) ?_
          refine r_iand (pc := 38) C dX6_look_38 ?_
          refine r_if_ne (pc := 39) C (tgt := 55) dX6_look_39 (by decide) (fun c_39 => ?_) (fun c_39 => ?_)
          · refine r_iconst (pc := 55) C (v := 0) dX6_look_55 (by decide) ?_
            refine kX6_124 (pc := 56) C (ask2 l D _ _ _ hT ((0 ≤ x ∧ x ≤ 2) ∧ (0 ≤ (nI i) ∧ (nI i) < nI ng)) ((σ 95 i >>> (x &&& 31)) &&& 1 = 0 ∧ gradeM σ i = -1) (by first | rfl | exact (bI_t (by assumption)).symm | exact (bI_f (by assumption)).symm | exact (bI_t ⟨by assumption, by assumption⟩).symm | exact (bI_t ⟨by assumption, by assumption, by assumption⟩).symm | exact (bI_f (by rintro ⟨h1, h2⟩; first | exact absurd h1 (by assumption) | exact absurd h2 (by assumption))).symm | exact (bI_f (by rintro ⟨h1, h2, h3⟩; first | exact absurd h2 (by assumption) | exact absurd h3 (by assumption))).symm | exact bI_c (by grind) | exact (bI_t (by grind)).symm | exact (bI_f (by grind)).symm) (fun hP0 => by first | rfl | exact absurd hP0 (by with_reducible assumption) | (obtain ⟨hp1, hp2⟩ := hP0; first | exact absurd hp1 (by with_reducible assumption) | exact absurd hp2 (by with_reducible assumption)) | exact (bI_t (by assumption)).symm | exact (bI_f (by assumption)).symm | exact (bI_t ⟨by assumption, by assumption⟩).symm | exact (bI_t ⟨by assumption, by assumption, by assumption⟩).symm | exact (bI_f (by rintro ⟨h1, h2⟩; first | exact absurd h1 (by assumption) | exact absurd h2 (by assumption))).symm | exact (bI_f (by rintro ⟨h1, h2, h3⟩; first | exact absurd h2 (by assumption) | exact absurd h3 (by assumption))).symm | exact bI_c (by grind) | exact (bI_t (by grind)).symm | exact (bI_f (by grind)).symm)) (hT.f (by decide)) rfl dX6_look_56 (Nat.le_of_ble_eq_true rfl) (by decide) ?_
            rintro _ _ ⟨rfl, rfl⟩
            refine r_if_ne_b (pc := 59) C (tgt := 64) dX6_look_59 (by decide) (fun c_59 => ?_) (fun c_59 => ?_)
            · have hok : (cd2 ((0 ≤ x ∧ x ≤ 2) ∧ (0 ≤ (nI i) ∧ (nI i) < nI ng)) ((σ 95 i >>> (x &&& 31)) &&& 1 = 0 ∧ gradeM σ i = -1)) = 0 := cd2_t c_59
              rw [hok]
              obtain ⟨τ, hτ⟩ : ∃ τ, up σ 60 0 0 = τ := ⟨_, rfl⟩
              rw [hτ]
              obtain ⟨hm1, hm3, hm26, hm18, hnp, hnr, hng, hnb5, hb, hsc, hlc, hpa, hro, hof, hte⟩ := (hτ ▸ ML_up 0 hS : ML nr ng np nb τ)
              obtain ⟨hP, hQ⟩ := c_59
              obtain ⟨hP1, hP2⟩ := hP
              obtain ⟨j, hj, rfl⟩ := ul_s (n := 2) (by omega) hP1
              rw [nI_clamp (by omega)]
              obtain ⟨c3, hc3, hce⟩ := hlc i hi
              have hc4 : c3 < 3 := by
                rcases (show c3 < 3 ∨ c3 = 3 by omega) with z | z
                · exact z
                · refine absurd hQ.2 ?_
                  have h9 : σ 93 i = 3 := by
                    have h8 : τ 93 i = σ 93 i := by rw [← hτ]; rfl
                    rw [← h8, hce, z]; rfl
                  unfold gradeM; rw [h9]; exact grade_3 (hlk _) (hlk _) (hlk _)
              obtain ⟨q, hq, hqx⟩ := hro i hi
              rw [show (τ 93 i).toNatClampNeg = c3 by rw [hce, nI_clamp (by omega)], show (τ 87 i).toNatClampNeg = q by rw [hqx, nI_clamp (by omega)]]
              refine r_aload0 (pc := 64) C dX6_look_64 ?_
              refine gX6_22 (pc := 65) C hT dX6_look_65 ?_
              refine r_aload0 (pc := 68) C dX6_look_68 ?_
              refine gX6_75 (pc := 69) C hT dX6_look_69 ?_
              refine r_iload2 (pc := 72) C dX6_look_72 ?_
              refine a427 (pc := 73) C hT rfl (by omega) dX6_look_73 ?_
              refine a407 (pc := 74) C hT hqx (by omega) dX6_look_74 ?_
              refine r_aload0 (pc := 75) C dX6_look_75 ?_
              refine gX6_102 (pc := 76) C hT dX6_look_76 ?_
              refine r_iload1 (pc := 79) C dX6_look_79 ?_
              refine a436 (pc := 80) C hT rfl (by omega) dX6_look_80 ?_
              refine r_iadd (pc := 81) C dX6_look_81 ?_
              refine r_bipush (pc := 82) C (v := 9) dX6_look_82 (by decide) ?_
              refine kX6_135 (pc := 84) C (c_X6_within l D _ _ _ (by decide)) dX6_look_84 (Nat.le_of_ble_eq_true rfl) (by decide) ?_
              rintro _ _ ⟨rfl, rfl⟩
              refine r_istore4 (pc := 87) C dX6_look_87 ?_
              refine r_aload0 (pc := 89) C dX6_look_89 ?_
              refine gX6_96 (pc := 90) C hT dX6_look_90 ?_
              refine r_iconst (pc := 93) C (v := 3) dX6_look_93 (by decide) ?_
              refine r_iload2 (pc := 94) C dX6_look_94 ?_
              refine r_imul (pc := 95) C dX6_look_95 ?_
              refine r_aload0 (pc := 96) C dX6_look_96 ?_
              refine gX6_93 (pc := 97) C hT dX6_look_97 ?_
              refine r_iload2 (pc := 100) C dX6_look_100 ?_
              refine a433 (pc := 101) C hT rfl (by omega) dX6_look_101 ?_
              refine r_iadd (pc := 102) C dX6_look_102 ?_
              refine r_iload4 (pc := 103) C dX6_look_103 ?_
              refine b434 (pc := 105) C hT (show (3 : Int32) * nI i + τ 93 i = nI (3 * i + c3) by rw [hce]; exact ix3n i c3) (by omega) dX6_look_105 ?_
              refine r_aload0 (pc := 106) C dX6_look_106 ?_
              refine gX6_93 (pc := 107) C hT dX6_look_107 ?_
              refine r_iload2 (pc := 110) C dX6_look_110 ?_
              refine r_dup2 (pc := 111) C dX6_look_111 rfl rfl ?_
              refine a433 (pc := 112) C hT rfl (by omega) dX6_look_112 ?_
              rw [show (up τ 94 (3 * i + c3) (mxI 0 (mnI 9 (τ 67 q + τ 96 j)))) 93 i = τ 93 i from rfl]
              refine r_iconst (pc := 113) C (v := 1) dX6_look_113 (by decide) ?_
              refine r_iadd (pc := 114) C dX6_look_114 ?_
              refine b433 (pc := 115) C hT rfl (by omega) dX6_look_115 ?_
              refine r_aload0 (pc := 116) C dX6_look_116 ?_
              refine gX6_99 (pc := 117) C hT dX6_look_117 ?_
              refine r_iload2 (pc := 120) C dX6_look_120 ?_
              refine r_dup2 (pc := 121) C dX6_look_121 rfl rfl ?_
              refine a435 (pc := 122) C hT rfl (by omega) dX6_look_122 ?_
              rw [show (up (up τ 94 (3 * i + c3) (mxI 0 (mnI 9 (τ 67 q + τ 96 j)))) 93 i (τ 93 i + 1)) 95 i = τ 95 i from rfl]
              refine r_iconst (pc := 123) C (v := 1) dX6_look_123 (by decide) ?_
              refine r_iload1 (pc := 124) C dX6_look_124 ?_
              refine r_ishl (pc := 125) C dX6_look_125 ?_
              refine r_ior (pc := 126) C dX6_look_126 ?_
              refine b435 (pc := 127) C hT rfl (by omega) dX6_look_127 ?_
              refine r_iload4 (pc := 128) C dX6_look_128 ?_
              exact r_iret C rfl dX6_look_130 (by first | exact ⟨fun q => absurd q hno, fun _ => ⟨rfl, rfl⟩⟩ | exact ⟨fun _ => ⟨rfl, rfl⟩, fun q => absurd rfl q⟩) (by decide) (by decide)
            · have hno : ¬ (cd2 ((0 ≤ x ∧ x ≤ 2) ∧ (0 ≤ (nI i) ∧ (nI i) < nI ng)) ((σ 95 i >>> (x &&& 31)) &&& 1 = 0 ∧ gradeM σ i = -1)) = 0 := cd2_f (by assumption)
              refine r_iconst (pc := 62) C (v := 0) dX6_look_62 (by decide) ?_
              exact r_iret C rfl dX6_look_63 (by first | exact ⟨fun q => absurd q hno, fun _ => ⟨rfl, rfl⟩⟩ | exact ⟨fun _ => ⟨rfl, rfl⟩, fun q => absurd rfl q⟩) (by decide) (by decide)
          · obtain ⟨c0, hc0, hce0⟩ := hlc i hi
            have hl3 : σ 93 i ≤ 3 := by rw [hce0]; exact (nI_leI (b := 3) (by omega) (by decide)).mpr hc0
            refine r_aload0 (pc := 42) C dX6_look_42 ?_
            refine r_iload2 (pc := 43) C dX6_look_43 ?_
            refine kX6_197 (pc := 44) C (c_X6_gradeOf l D _ _ _ hT (by omega) hl3) (hT.f (by decide)) rfl dX6_look_44 (Nat.le_of_ble_eq_true rfl) (by decide) ?_
            rintro _ _ ⟨rfl, rfl⟩
            refine r_iconst (pc := 47) C (v := (-1)) dX6_look_47 (by decide) ?_
            refine r_icmp_ne (pc := 48) C (tgt := 55) dX6_look_48 (by decide) (fun c_48 => ?_) (fun c_48 => ?_)
            · refine r_iconst (pc := 55) C (v := 0) dX6_look_55 (by decide) ?_
              refine kX6_124 (pc := 56) C (ask2 l D _ _ _ hT ((0 ≤ x ∧ x ≤ 2) ∧ (0 ≤ (nI i) ∧ (nI i) < nI ng)) ((σ 95 i >>> (x &&& 31)) &&& 1 = 0 ∧ gradeM σ i = -1) (by first | rfl | exact (bI_t (by assumption)).symm | exact (bI_f (by assumption)).symm | exact (bI_t ⟨by assumption, by assumption⟩).symm | exact (bI_t ⟨by assumption, by assumption, by assumption⟩).symm | exact (bI_f (by rintro ⟨h1, h2⟩; first | exact absurd h1 (by assumption) | exact absurd h2 (by assumption))).symm | exact (bI_f (by rintro ⟨h1, h2, h3⟩; first | exact absurd h2 (by assumption) | exact absurd h3 (by assumption))).symm | exact bI_c (by grind) | exact (bI_t (by grind)).symm | exact (bI_f (by grind)).symm) (fun hP0 => by first | rfl | exact absurd hP0 (by with_reducible assumption) | (obtain ⟨hp1, hp2⟩ := hP0; first | exact absurd hp1 (by with_reducible assumption) | exact absurd hp2 (by with_reducible assumption)) | exact (bI_t (by assumption)).symm | exact (bI_f (by assumption)).symm | exact (bI_t ⟨by assumption, by assumption⟩).symm | exact (bI_t ⟨by assumption, by assumption, by assumption⟩).symm | exact (bI_f (by rintro ⟨h1, h2⟩; first | exact absurd h1 (by assumption) | exact absurd h2 (by assumption))).symm | exact (bI_f (by rintro ⟨h1, h2, h3⟩; first | exact absurd h2 (by assumption) | exact absurd h3 (by assumption))).symm | exact bI_c (by grind) | exact (bI_t (by grind)).symm | exact (bI_f (by grind)).symm)) (hT.f (by decide)) rfl dX6_look_56 (Nat.le_of_ble_eq_true rfl) (by decide) ?_
              rintro _ _ ⟨rfl, rfl⟩
              refine r_if_ne_b (pc := 59) C (tgt := 64) dX6_look_59 (by decide) (fun c_59 => ?_) (fun c_59 => ?_)
              · have hok : (cd2 ((0 ≤ x ∧ x ≤ 2) ∧ (0 ≤ (nI i) ∧ (nI i) < nI ng)) ((σ 95 i >>> (x &&& 31)) &&& 1 = 0 ∧ gradeM σ i = -1)) = 0 := cd2_t c_59
                rw [hok]
                obtain ⟨τ, hτ⟩ : ∃ τ, up σ 60 0 0 = τ := ⟨_, rfl⟩
                rw [hτ]
                obtain ⟨hm1, hm3, hm26, hm18, hnp, hnr, hng, hnb5, hb, hsc, hlc, hpa, hro, hof, hte⟩ := (hτ ▸ ML_up 0 hS : ML nr ng np nb τ)
                obtain ⟨hP, hQ⟩ := c_59
                obtain ⟨hP1, hP2⟩ := hP
                obtain ⟨j, hj, rfl⟩ := ul_s (n := 2) (by omega) hP1
                rw [nI_clamp (by omega)]
                obtain ⟨c3, hc3, hce⟩ := hlc i hi
                have hc4 : c3 < 3 := by
                  rcases (show c3 < 3 ∨ c3 = 3 by omega) with z | z
                  · exact z
                  · refine absurd hQ.2 ?_
                    have h9 : σ 93 i = 3 := by
                      have h8 : τ 93 i = σ 93 i := by rw [← hτ]; rfl
                      rw [← h8, hce, z]; rfl
                    unfold gradeM; rw [h9]; exact grade_3 (hlk _) (hlk _) (hlk _)
                obtain ⟨q, hq, hqx⟩ := hro i hi
                rw [show (τ 93 i).toNatClampNeg = c3 by rw [hce, nI_clamp (by omega)], show (τ 87 i).toNatClampNeg = q by rw [hqx, nI_clamp (by omega)]]
                refine r_aload0 (pc := 64) C dX6_look_64 ?_
                refine gX6_22 (pc := 65) C hT dX6_look_65 ?_
                refine r_aload0 (pc := 68) C dX6_look_68 ?_
                refine gX6_75 (pc := 69) C hT dX6_look_69 ?_
                refine r_iload2 (pc := 72) C dX6_look_72 ?_
                refine a427 (pc := 73) C hT rfl (by omega) dX6_look_73 ?_
                refine a407 (pc := 74) C hT hqx (by omega) dX6_look_74 ?_
                refine r_aload0 (pc := 75) C dX6_look_75 ?_
                refine gX6_102 (pc := 76) C hT dX6_look_76 ?_
                refine r_iload1 (pc := 79) C dX6_look_79 ?_
                refine a436 (pc := 80) C hT rfl (by omega) dX6_look_80 ?_
                refine r_iadd (pc := 81) C dX6_look_81 ?_
                refine r_bipush (pc := 82) C (v := 9) dX6_look_82 (by decide) ?_
                refine kX6_135 (pc := 84) C (c_X6_within l D _ _ _ (by decide)) dX6_look_84 (Nat.le_of_ble_eq_true rfl) (by decide) ?_
                rintro _ _ ⟨rfl, rfl⟩
                refine r_istore4 (pc := 87) C dX6_look_87 ?_
                refine r_aload0 (pc := 89) C dX6_look_89 ?_
                refine gX6_96 (pc := 90) C hT dX6_look_90 ?_
                refine r_iconst (pc := 93) C (v := 3) dX6_look_93 (by decide) ?_
                refine r_iload2 (pc := 94) C dX6_look_94 ?_
                refine r_imul (pc := 95) C dX6_look_95 ?_
                refine r_aload0 (pc := 96) C dX6_look_96 ?_
                refine gX6_93 (pc := 97) C hT dX6_look_97 ?_
                refine r_iload2 (pc := 100) C dX6_look_100 ?_
                refine a433 (pc := 101) C hT rfl (by omega) dX6_look_101 ?_
                refine r_iadd (pc := 102) C dX6_look_102 ?_
                refine r_iload4 (pc := 103) C dX6_look_103 ?_
                refine b434 (pc := 105) C hT (show (3 : Int32) * nI i + τ 93 i = nI (3 * i + c3) by rw [hce]; exact ix3n i c3) (by omega) dX6_look_105 ?_
                refine r_aload0 (pc := 106) C dX6_look_106 ?_
                refine gX6_93 (pc := 107) C hT dX6_look_107 ?_
                refine r_iload2 (pc := 110) C dX6_look_110 ?_
                refine r_dup2 (pc := 111) C dX6_look_111 rfl rfl ?_
                refine a433 (pc := 112) C hT rfl (by omega) dX6_look_112 ?_
                rw [show (up τ 94 (3 * i + c3) (mxI 0 (mnI 9 (τ 67 q + τ 96 j)))) 93 i = τ 93 i from rfl]
                refine r_iconst (pc := 113) C (v := 1) dX6_look_113 (by decide) ?_
                refine r_iadd (pc := 114) C dX6_look_114 ?_
                refine b433 (pc := 115) C hT rfl (by omega) dX6_look_115 ?_
                refine r_aload0 (pc := 116) C dX6_look_116 ?_
                refine gX6_99 (pc := 117) C hT dX6_look_117 ?_
                refine r_iload2 (pc := 120) C dX6_look_120 ?_
                refine r_dup2 (pc := 121) C dX6_look_121 rfl rfl ?_
                refine a435 (pc := 122) C hT rfl (by omega) dX6_look_122 ?_
                rw [show (up (up τ 94 (3 * i + c3) (mxI 0 (mnI 9 (τ 67 q + τ 96 j)))) 93 i (τ 93 i + 1)) 95 i = τ 95 i from rfl]
                refine r_iconst (pc := 123) C (v := 1) dX6_look_123 (by decide) ?_
                refine r_iload1 (pc := 124) C dX6_look_124 ?_
                refine r_ishl (pc := 125) C dX6_look_125 ?_
                refine r_ior (pc := 126) C dX6_look_126 ?_
                refine b435 (pc := 127) C hT rfl (by omega) dX6_look_127 ?_
                refine r_iload4 (pc := 128) C dX6_look_128 ?_
                exact r_iret C rfl dX6_look_130 (by first | exact ⟨fun q => absurd q hno, fun _ => ⟨rfl, rfl⟩⟩ | exact ⟨fun _ => ⟨rfl, rfl⟩, fun q => absurd rfl q⟩) (by decide) (by decide)
              · have hno : ¬ (cd2 ((0 ≤ x ∧ x ≤ 2) ∧ (0 ≤ (nI i) ∧ (nI i) < nI ng)) ((σ 95 i >>> (x &&& 31)) &&& 1 = 0 ∧ gradeM σ i = -1)) = 0 := cd2_f (by assumption)
                refine r_iconst (pc := 62) C (v := 0) dX6_look_62 (by decide) ?_
                exact r_iret C rfl dX6_look_63 (by first | exact ⟨fun q => absurd q hno, fun _ => ⟨rfl, rfl⟩⟩ | exact ⟨fun _ => ⟨rfl, rfl⟩, fun q => absurd rfl q⟩) (by decide) (by decide)
            · refine r_iconst (pc := 51) C (v := 1) dX6_look_51 (by decide) ?_
              refine r_goto (pc := 52) C (tgt := 56) dX6_look_52 (by decide) ?_
              refine kX6_124 (pc := 56) C (ask2 l D _ _ _ hT ((0 ≤ x ∧ x ≤ 2) ∧ (0 ≤ (nI i) ∧ (nI i) < nI ng)) ((σ 95 i >>> (x &&& 31)) &&& 1 = 0 ∧ gradeM σ i = -1) (by first | rfl | exact (bI_t (by assumption)).symm | exact (bI_f (by assumption)).symm | exact (bI_t ⟨by assumption, by assumption⟩).symm | exact (bI_t ⟨by assumption, by assumption, by assumption⟩).symm | exact (bI_f (by rintro ⟨h1, h2⟩; first | exact absurd h1 (by assumption) | exact absurd h2 (by assumption))).symm | exact (bI_f (by rintro ⟨h1, h2, h3⟩; first | exact absurd h2 (by assumption) | exact absurd h3 (by assumption))).symm | exact bI_c (by grind) | exact (bI_t (by grind)).symm | exact (bI_f (by grind)).symm) (fun hP0 => by first | rfl | exact absurd hP0 (by with_reducible assumption) | (obtain ⟨hp1, hp2⟩ := hP0; first | exact absurd hp1 (by with_reducible assumption) | exact absurd hp2 (by with_reducible assumption)) | exact (bI_t (by assumption)).symm | exact (bI_f (by assumption)).symm | exact (bI_t ⟨by assumption, by assumption⟩).symm | exact (bI_t ⟨by assumption, by assumption, by assumption⟩).symm | exact (bI_f (by rintro ⟨h1, h2⟩; first | exact absurd h1 (by assumption) | exact absurd h2 (by assumption))).symm | exact (bI_f (by rintro ⟨h1, h2, h3⟩; first | exact absurd h2 (by assumption) | exact absurd h3 (by assumption))).symm | exact bI_c (by grind) | exact (bI_t (by grind)).symm | exact (bI_f (by grind)).symm)) (hT.f (by decide)) rfl dX6_look_56 (Nat.le_of_ble_eq_true rfl) (by decide) ?_
              rintro _ _ ⟨rfl, rfl⟩
              refine r_if_ne_b (pc := 59) C (tgt := 64) dX6_look_59 (by decide) (fun c_59 => ?_) (fun c_59 => ?_)
              · have hok : (cd2 ((0 ≤ x ∧ x ≤ 2) ∧ (0 ≤ (nI i) ∧ (nI i) < nI ng)) ((σ 95 i >>> (x &&& 31)) &&& 1 = 0 ∧ gradeM σ i = -1)) = 0 := cd2_t c_59
                rw [hok]
                obtain ⟨τ, hτ⟩ : ∃ τ, up σ 60 0 0 = τ := ⟨_, rfl⟩
                rw [hτ]
                obtain ⟨hm1, hm3, hm26, hm18, hnp, hnr, hng, hnb5, hb, hsc, hlc, hpa, hro, hof, hte⟩ := (hτ ▸ ML_up 0 hS : ML nr ng np nb τ)
                obtain ⟨hP, hQ⟩ := c_59
                obtain ⟨hP1, hP2⟩ := hP
                obtain ⟨j, hj, rfl⟩ := ul_s (n := 2) (by omega) hP1
                rw [nI_clamp (by omega)]
                obtain ⟨c3, hc3, hce⟩ := hlc i hi
                have hc4 : c3 < 3 := by
                  rcases (show c3 < 3 ∨ c3 = 3 by omega) with z | z
                  · exact z
                  · refine absurd hQ.2 ?_
                    have h9 : σ 93 i = 3 := by
                      have h8 : τ 93 i = σ 93 i := by rw [← hτ]; rfl
                      rw [← h8, hce, z]; rfl
                    unfold gradeM; rw [h9]; exact grade_3 (hlk _) (hlk _) (hlk _)
                obtain ⟨q, hq, hqx⟩ := hro i hi
                rw [show (τ 93 i).toNatClampNeg = c3 by rw [hce, nI_clamp (by omega)], show (τ 87 i).toNatClampNeg = q by rw [hqx, nI_clamp (by omega)]]
                refine r_aload0 (pc := 64) C dX6_look_64 ?_
                refine gX6_22 (pc := 65) C hT dX6_look_65 ?_
                refine r_aload0 (pc := 68) C dX6_look_68 ?_
                refine gX6_75 (pc := 69) C hT dX6_look_69 ?_
                refine r_iload2 (pc := 72) C dX6_look_72 ?_
                refine a427 (pc := 73) C hT rfl (by omega) dX6_look_73 ?_
                refine a407 (pc := 74) C hT hqx (by omega) dX6_look_74 ?_
                refine r_aload0 (pc := 75) C dX6_look_75 ?_
                refine gX6_102 (pc := 76) C hT dX6_look_76 ?_
                refine r_iload1 (pc := 79) C dX6_look_79 ?_
                refine a436 (pc := 80) C hT rfl (by omega) dX6_look_80 ?_
                refine r_iadd (pc := 81) C dX6_look_81 ?_
                refine r_bipush (pc := 82) C (v := 9) dX6_look_82 (by decide) ?_
                refine kX6_135 (pc := 84) C (c_X6_within l D _ _ _ (by decide)) dX6_look_84 (Nat.le_of_ble_eq_true rfl) (by decide) ?_
                rintro _ _ ⟨rfl, rfl⟩
                refine r_istore4 (pc := 87) C dX6_look_87 ?_
                refine r_aload0 (pc := 89) C dX6_look_89 ?_
                refine gX6_96 (pc := 90) C hT dX6_look_90 ?_
                refine r_iconst (pc := 93) C (v := 3) dX6_look_93 (by decide) ?_
                refine r_iload2 (pc := 94) C dX6_look_94 ?_
                refine r_imul (pc := 95) C dX6_look_95 ?_
                refine r_aload0 (pc := 96) C dX6_look_96 ?_
                refine gX6_93 (pc := 97) C hT dX6_look_97 ?_
                refine r_iload2 (pc := 100) C dX6_look_100 ?_
                refine a433 (pc := 101) C hT rfl (by omega) dX6_look_101 ?_
                refine r_iadd (pc := 102) C dX6_look_102 ?_
                refine r_iload4 (pc := 103) C dX6_look_103 ?_
                refine b434 (pc := 105) C hT (show (3 : Int32) * nI i + τ 93 i = nI (3 * i + c3) by rw [hce]; exact ix3n i c3) (by omega) dX6_look_105 ?_
                refine r_aload0 (pc := 106) C dX6_look_106 ?_
                refine gX6_93 (pc := 107) C hT dX6_look_107 ?_
                refine r_iload2 (pc := 110) C dX6_look_110 ?_
                refine r_dup2 (pc := 111) C dX6_look_111 rfl rfl ?_
                refine a433 (pc := 112) C hT rfl (by omega) dX6_look_112 ?_
                rw [show (up τ 94 (3 * i + c3) (mxI 0 (mnI 9 (τ 67 q + τ 96 j)))) 93 i = τ 93 i from rfl]
                refine r_iconst (pc := 113) C (v := 1) dX6_look_113 (by decide) ?_
                refine r_iadd (pc := 114) C dX6_look_114 ?_
                refine b433 (pc := 115) C hT rfl (by omega) dX6_look_115 ?_
                refine r_aload0 (pc := 116) C dX6_look_116 ?_
                refine gX6_99 (pc := 117) C hT dX6_look_117 ?_
                refine r_iload2 (pc := 120) C dX6_look_120 ?_
                refine r_dup2 (pc := 121) C dX6_look_121 rfl rfl ?_
                refine a435 (pc := 122) C hT rfl (by omega) dX6_look_122 ?_
                rw [show (up (up τ 94 (3 * i + c3) (mxI 0 (mnI 9 (τ 67 q + τ 96 j)))) 93 i (τ 93 i + 1)) 95 i = τ 95 i from rfl]
                refine r_iconst (pc := 123) C (v := 1) dX6_look_123 (by decide) ?_
                refine r_iload1 (pc := 124) C dX6_look_124 ?_
                refine r_ishl (pc := 125) C dX6_look_125 ?_
                refine r_ior (pc := 126) C dX6_look_126 ?_
                refine b435 (pc := 127) C hT rfl (by omega) dX6_look_127 ?_
                refine r_iload4 (pc := 128) C dX6_look_128 ?_
                exact r_iret C rfl dX6_look_130 (by first | exact ⟨fun q => absurd q hno, fun _ => ⟨rfl, rfl⟩⟩ | exact ⟨fun _ => ⟨rfl, rfl⟩, fun q => absurd rfl q⟩) (by decide) (by decide)
              · have hno : ¬ (cd2 ((0 ≤ x ∧ x ≤ 2) ∧ (0 ≤ (nI i) ∧ (nI i) < nI ng)) ((σ 95 i >>> (x &&& 31)) &&& 1 = 0 ∧ gradeM σ i = -1)) = 0 := cd2_f (by assumption)
                refine r_iconst (pc := 62) C (v := 0) dX6_look_62 (by decide) ?_
                exact r_iret C rfl dX6_look_63 (by first | exact ⟨fun q => absurd q hno, fun _ => ⟨rfl, rfl⟩⟩ | exact ⟨fun _ => ⟨rfl, rfl⟩, fun q => absurd rfl q⟩) (by decide) (by decide)
      · refine r_iconst (pc := 17) C (v := 1) dX6_look_17 (by decide) ?_
        refine r_goto (pc := 18) C (tgt := 22) dX6_look_18 (by decide) ?_
        refine r_istore3 (pc := 22) C dX6_look_22 ?_
        refine r_aload0 (pc := 23) C dX6_look_23 ?_
        refine r_iload3 (pc := 24) C dX6_look_24 ?_
        refine r_iload3 (pc := 25) C dX6_look_25 ?_
        refine r_if_eq (pc := 26) C (tgt := 55) dX6_look_26 (by decide) (fun c_26 => ?_) (fun c_26 => ?_)
        · refine r_iconst (pc := 55) C (v := 0) dX6_look_55 (by decide) ?_
          refine kX6_124 (pc := 56) C (ask2 l D _ _ _ hT ((0 ≤ x ∧ x ≤ 2) ∧ (0 ≤ (nI i) ∧ (nI i) < nI ng)) ((σ 95 i >>> (x &&& 31)) &&& 1 = 0 ∧ gradeM σ i = -1) (by first | rfl | exact (bI_t (by assumption)).symm | exact (bI_f (by assumption)).symm | exact (bI_t ⟨by assumption, by assumption⟩).symm | exact (bI_t ⟨by assumption, by assumption, by assumption⟩).symm | exact (bI_f (by rintro ⟨h1, h2⟩; first | exact absurd h1 (by assumption) | exact absurd h2 (by assumption))).symm | exact (bI_f (by rintro ⟨h1, h2, h3⟩; first | exact absurd h2 (by assumption) | exact absurd h3 (by assumption))).symm | exact bI_c (by grind) | exact (bI_t (by grind)).symm | exact (bI_f (by grind)).symm) (fun hP0 => by first | rfl | exact absurd hP0 (by with_reducible assumption) | (obtain ⟨hp1, hp2⟩ := hP0; first | exact absurd hp1 (by with_reducible assumption) | exact absurd hp2 (by with_reducible assumption)) | exact (bI_t (by assumption)).symm | exact (bI_f (by assumption)).symm | exact (bI_t ⟨by assumption, by assumption⟩).symm | exact (bI_t ⟨by assumption, by assumption, by assumption⟩).symm | exact (bI_f (by rintro ⟨h1, h2⟩; first | exact absurd h1 (by assumption) | exact absurd h2 (by assumption))).symm | exact (bI_f (by rintro ⟨h1, h2, h3⟩; first | exact absurd h2 (by assumption) | exact absurd h3 (by assumption))).symm | exact bI_c (by grind) | exact (bI_t (by grind)).symm | exact (bI_f (by grind)).symm)) (hT.f (by decide)) rfl dX6_look_56 (Nat.le_of_ble_eq_true rfl) (by decide) ?_
          rintro _ _ ⟨rfl, rfl⟩
          refine r_if_ne_b (pc := 59) C (tgt := 64) dX6_look_59 (by decide) (fun c_59 => ?_) (fun c_59 => ?_)
          · have hok : (cd2 ((0 ≤ x ∧ x ≤ 2) ∧ (0 ≤ (nI i) ∧ (nI i) < nI ng)) ((σ 95 i >>> (x &&& 31)) &&& 1 = 0 ∧ gradeM σ i = -1)) = 0 := cd2_t c_59
            rw [hok]
            obtain ⟨τ, hτ⟩ : ∃ τ, up σ 60 0 0 = τ := ⟨_, rfl⟩
            rw [hτ]
            obtain ⟨hm1, hm3, hm26, hm18, hnp, hnr, hng, hnb5, hb, hsc, hlc, hpa, hro, hof, hte⟩ := (hτ ▸ ML_up 0 hS : ML nr ng np nb τ)
            obtain ⟨hP, hQ⟩ := c_59
            obtain ⟨hP1, hP2⟩ := hP
            obtain ⟨j, hj, rfl⟩ := ul_s (n := 2) (by omega) hP1
            rw [nI_clamp (by omega)]
            obtain ⟨c3, hc3, hce⟩ := hlc i hi
            have hc4 : c3 < 3 := by
              rcases (show c3 < 3 ∨ c3 = 3 by omega) with z | z
              · exact z
              · refine absurd hQ.2 ?_
                have h9 : σ 93 i = 3 := by
                  have h8 : τ 93 i = σ 93 i := by rw [← hτ]; rfl
                  rw [← h8, hce, z]; rfl
                unfold gradeM; rw [h9]; exact grade_3 (hlk _) (hlk _) (hlk _)
            obtain ⟨q, hq, hqx⟩ := hro i hi
            rw [show (τ 93 i).toNatClampNeg = c3 by rw [hce, nI_clamp (by omega)], show (τ 87 i).toNatClampNeg = q by rw [hqx, nI_clamp (by omega)]]
            refine r_aload0 (pc := 64) C dX6_look_64 ?_
            refine gX6_22 (pc := 65) C hT dX6_look_65 ?_
            refine r_aload0 (pc := 68) C dX6_look_68 ?_
            refine gX6_75 (pc := 69) C hT dX6_look_69 ?_
            refine r_iload2 (pc := 72) C dX6_look_72 ?_
            refine a427 (pc := 73) C hT rfl (by omega) dX6_look_73 ?_
            refine a407 (pc := 74) C hT hqx (by omega) dX6_look_74 ?_
            refine r_aload0 (pc := 75) C dX6_look_75 ?_
            refine gX6_102 (pc := 76) C hT dX6_look_76 ?_
            refine r_iload1 (pc := 79) C dX6_look_79 ?_
            refine a436 (pc := 80) C hT rfl (by omega) dX6_look_80 ?_
            refine r_iadd (pc := 81) C dX6_look_81 ?_
            refine r_bipush (pc := 82) C (v := 9) dX6_look_82 (by decide) ?_
            refine kX6_135 (pc := 84) C (c_X6_within l D _ _ _ (by decide)) dX6_look_84 (Nat.le_of_ble_eq_true rfl) (by decide) ?_
            rintro _ _ ⟨rfl, rfl⟩
            refine r_istore4 (pc := 87) C dX6_look_87 ?_
            refine r_aload0 (pc := 89) C dX6_look_89 ?_
            refine gX6_96 (pc := 90) C hT dX6_look_90 ?_
            refine r_iconst (pc := 93) C (v := 3) dX6_look_93 (by decide) ?_
            refine r_iload2 (pc := 94) C dX6_look_94 ?_
            refine r_imul (pc := 95) C dX6_look_95 ?_
            refine r_aload0 (pc := 96) C dX6_look_96 ?_
            refine gX6_93 (pc := 97) C hT dX6_look_97 ?_
            refine r_iload2 (pc := 100) C dX6_look_100 ?_
            refine a433 (pc := 101) C hT rfl (by omega) dX6_look_101 ?_
            refine r_iadd (pc := 102) C dX6_look_102 ?_
            refine r_iload4 (pc := 103) C dX6_look_103 ?_
            refine b434 (pc := 105) C hT (show (3 : Int32) * nI i + τ 93 i = nI (3 * i + c3) by rw [hce]; exact ix3n i c3) (by omega) dX6_look_105 ?_
            refine r_aload0 (pc := 106) C dX6_look_106 ?_
            refine gX6_93 (pc := 107) C hT dX6_look_107 ?_
            refine r_iload2 (pc := 110) C dX6_look_110 ?_
            refine r_dup2 (pc := 111) C dX6_look_111 rfl rfl ?_
            refine a433 (pc := 112) C hT rfl (by omega) dX6_look_112 ?_
            rw [show (up τ 94 (3 * i + c3) (mxI 0 (mnI 9 (τ 67 q + τ 96 j)))) 93 i = τ 93 i from rfl]
            refine r_iconst (pc := 113) C (v := 1) dX6_look_113 (by decide) ?_
            refine r_iadd (pc := 114) C dX6_look_114 ?_
            refine b433 (pc := 115) C hT rfl (by omega) dX6_look_115 ?_
            refine r_aload0 (pc := 116) C dX6_look_116 ?_
            refine gX6_99 (pc := 117) C hT dX6_look_117 ?_
            refine r_iload2 (pc := 120) C dX6_look_120 ?_
            refine r_dup2 (pc := 121) C dX6_look_121 rfl rfl ?_
            refine a435 (pc := 122) C hT rfl (by omega) dX6_look_122 ?_
            rw [show (up (up τ 94 (3 * i + c3) (mxI 0 (mnI 9 (τ 67 q + τ 96 j)))) 93 i (τ 93 i + 1)) 95 i = τ 95 i from rfl]
            refine r_iconst (pc := 123) C (v := 1) dX6_look_123 (by decide) ?_
            refine r_iload1 (pc := 124) C dX6_look_124 ?_
            refine r_ishl (pc := 125) C dX6_look_125 ?_
            refine r_ior (pc := 126) C dX6_look_126 ?_
            refine b435 (pc := 127) C hT rfl (by omega) dX6_look_127 ?_
            refine r_iload4 (pc := 128) C dX6_look_128 ?_
            exact r_iret C rfl dX6_look_130 (by first | exact ⟨fun q => absurd q hno, fun _ => ⟨rfl, rfl⟩⟩ | exact ⟨fun _ => ⟨rfl, rfl⟩, fun q => absurd rfl q⟩) (by decide) (by decide)
          · have hno : ¬ (cd2 ((0 ≤ x ∧ x ≤ 2) ∧ (0 ≤ (nI i) ∧ (nI i) < nI ng)) ((σ 95 i >>> (x &&& 31)) &&& 1 = 0 ∧ gradeM σ i = -1)) = 0 := cd2_f (by assumption)
            refine r_iconst (pc := 62) C (v := 0) dX6_look_62 (by decide) ?_
            exact r_iret C rfl dX6_look_63 (by first | exact ⟨fun q => absurd q hno, fun _ => ⟨rfl, rfl⟩⟩ | exact ⟨fun _ => ⟨rfl, rfl⟩, fun q => absurd rfl q⟩) (by decide) (by decide)
        · refine r_aload0 (pc := 29) C dX6_look_29 ?_
          refine gX6_99 (pc := 30) C hT dX6_look_30 ?_
          refine r_iload2 (pc := 33) C dX6_look_33 ?_
          refine a435 (pc := 34) C hT rfl (by omega) dX6_look_34 ?_
          refine r_iload1 (pc := 35) C dX6_look_35 ?_
          refine r_ishr (pc := 36) C dX6_look_36 ?_
          refine r_iconst (pc := 37) C (v := 1) dX6_look_37 (by decide) ?_
          refine r_iand (pc := 38) C dX6_look_38 ?_
          refine r_if_ne (pc := 39) C (tgt := 55) dX6_look_39 (by decide) (fun c_39 => ?_) (fun c_39 => ?_)
          · refine r_iconst (pc := 55) C (v := 0) dX6_look_55 (by decide) ?_
            refine kX6_124 (pc := 56) C (ask2 l D _ _ _ hT ((0 ≤ x ∧ x ≤ 2) ∧ (0 ≤ (nI i) ∧ (nI i) < nI ng)) ((σ 95 i >>> (x &&& 31)) &&& 1 = 0 ∧ gradeM σ i = -1) (by first | rfl | exact (bI_t (by assumption)).symm | exact (bI_f (by assumption)).symm | exact (bI_t ⟨by assumption, by assumption⟩).symm | exact (bI_t ⟨by assumption, by assumption, by assumption⟩).symm | exact (bI_f (by rintro ⟨h1, h2⟩; first | exact absurd h1 (by assumption) | exact absurd h2 (by assumption))).symm | exact (bI_f (by rintro ⟨h1, h2, h3⟩; first | exact absurd h2 (by assumption) | exact absurd h3 (by assumption))).symm | exact bI_c (by grind) | exact (bI_t (by grind)).symm | exact (bI_f (by grind)).symm) (fun hP0 => by first | rfl | exact absurd hP0 (by with_reducible assumption) | (obtain ⟨hp1, hp2⟩ := hP0; first | exact absurd hp1 (by with_reducible assumption) | exact absurd hp2 (by with_reducible assumption)) | exact (bI_t (by assumption)).symm | exact (bI_f (by assumption)).symm | exact (bI_t ⟨by assumption, by assumption⟩).symm | exact (bI_t ⟨by assumption, by assumption, by assumption⟩).symm | exact (bI_f (by rintro ⟨h1, h2⟩; first | exact absurd h1 (by assumption) | exact absurd h2 (by assumption))).symm | exact (bI_f (by rintro ⟨h1, h2, h3⟩; first | exact absurd h2 (by assumption) | exact absurd h3 (by assumption))).symm | exact bI_c (by grind) | exact (bI_t (by grind)).symm | exact (bI_f (by grind)).symm)) (hT.f (by decide)) rfl dX6_look_56 (Nat.le_of_ble_eq_true rfl) (by decide) ?_
            rintro _ _ ⟨rfl, rfl⟩
            refine r_if_ne_b (pc := 59) C (tgt := 64) dX6_look_59 (by decide) (fun c_59 => ?_) (fun c_59 => ?_)
            · have hok : (cd2 ((0 ≤ x ∧ x ≤ 2) ∧ (0 ≤ (nI i) ∧ (nI i) < nI ng)) ((σ 95 i >>> (x &&& 31)) &&& 1 = 0 ∧ gradeM σ i = -1)) = 0 := cd2_t c_59
              rw [hok]
              obtain ⟨τ, hτ⟩ : ∃ τ, up σ 60 0 0 = τ := ⟨_, rfl⟩
              rw [hτ]
              obtain ⟨hm1, hm3, hm26, hm18, hnp, hnr, hng, hnb5, hb, hsc, hlc, hpa, hro, hof, hte⟩ := (hτ ▸ ML_up 0 hS : ML nr ng np nb τ)
              obtain ⟨hP, hQ⟩ := c_59
              obtain ⟨hP1, hP2⟩ := hP
              obtain ⟨j, hj, rfl⟩ := ul_s (n := 2) (by omega) hP1
              rw [nI_clamp (by omega)]
              obtain ⟨c3, hc3, hce⟩ := hlc i hi
              have hc4 : c3 < 3 := by
                rcases (show c3 < 3 ∨ c3 = 3 by omega) with z | z
                · exact z
                · refine absurd hQ.2 ?_
                  have h9 : σ 93 i = 3 := by
                    have h8 : τ 93 i = σ 93 i := by rw [← hτ]; rfl
                    rw [← h8, hce, z]; rfl
                  unfold gradeM; rw [h9]; exact grade_3 (hlk _) (hlk _) (hlk _)
              obtain ⟨q, hq, hqx⟩ := hro i hi
              rw [show (τ 93 i).toNatClampNeg = c3 by rw [hce, nI_clamp (by omega)], show (τ 87 i).toNatClampNeg = q by rw [hqx, nI_clamp (by omega)]]
              refine r_aload0 (pc := 64) C dX6_look_64 ?_
              refine gX6_22 (pc := 65) C hT dX6_look_65 ?_
              refine r_aload0 (pc := 68) C dX6_look_68 ?_
              refine gX6_75 (pc := 69) C hT dX6_look_69 ?_
              refine r_iload2 (pc := 72) C dX6_look_72 ?_
              refine a427 (pc := 73) C hT rfl (by omega) dX6_look_73 ?_
              refine a407 (pc := 74) C hT hqx (by omega) dX6_look_74 ?_
              refine r_aload0 (pc := 75) C dX6_look_75 ?_
              refine gX6_102 (pc := 76) C hT dX6_look_76 ?_
              refine r_iload1 (pc := 79) C dX6_look_79 ?_
              refine a436 (pc := 80) C hT rfl (by omega) dX6_look_80 ?_
              refine r_iadd (pc := 81) C dX6_look_81 ?_
              refine r_bipush (pc := 82) C (v := 9) dX6_look_82 (by decide) ?_
              refine kX6_135 (pc := 84) C (c_X6_within l D _ _ _ (by decide)) dX6_look_84 (Nat.le_of_ble_eq_true rfl) (by decide) ?_
              rintro _ _ ⟨rfl, rfl⟩
              refine r_istore4 (pc := 87) C dX6_look_87 ?_
              refine r_aload0 (pc := 89) C dX6_look_89 ?_
              refine gX6_96 (pc := 90) C hT dX6_look_90 ?_
              refine r_iconst (pc := 93) C (v := 3) dX6_look_93 (by decide) ?_
              refine r_iload2 (pc := 94) C dX6_look_94 ?_
              refine r_imul (pc := 95) C dX6_look_95 ?_
              refine r_aload0 (pc := 96) C dX6_look_96 ?_
              refine gX6_93 (pc := 97) C hT dX6_look_97 ?_
              refine r_iload2 (pc := 100) C dX6_look_100 ?_
              refine a433 (pc := 101) C hT rfl (by omega) dX6_look_101 ?_
              refine r_iadd (pc := 102) C dX6_look_102 ?_
              refine r_iload4 (pc := 103) C dX6_look_103 ?_
              refine b434 (pc := 105) C hT (show (3 : Int32) * nI i + τ 93 i = nI (3 * i + c3) by rw [hce]; exact ix3n i c3) (by omega) dX6_look_105 ?_
              refine r_aload0 (pc := 106) C dX6_look_106 ?_
              refine gX6_93 (pc := 107) C hT dX6_look_107 ?_
              refine r_iload2 (pc := 110) C dX6_look_110 ?_
              refine r_dup2 (pc := 111) C dX6_look_111 rfl rfl ?_
              refine a433 (pc := 112) C hT rfl (by omega) dX6_look_112 ?_
              rw [show (up τ 94 (3 * i + c3) (mxI 0 (mnI 9 (τ 67 q + τ 96 j)))) 93 i = τ 93 i from rfl]
              refine r_iconst (pc := 113) C (v := 1) dX6_look_113 (by decide) ?_
              refine r_iadd (pc := 114) C dX6_look_114 ?_
              refine b433 (pc := 115) C hT rfl (by omega) dX6_look_115 ?_
              refine r_aload0 (pc := 116) C dX6_look_116 ?_
              refine gX6_99 (pc := 117) C hT dX6_look_117 ?_
              refine r_iload2 (pc := 120) C dX6_look_120 ?_
              refine r_dup2 (pc := 121) C dX6_look_121 rfl rfl ?_
              refine a435 (pc := 122) C hT rfl (by omega) dX6_look_122 ?_
              rw [show (up (up τ 94 (3 * i + c3) (mxI 0 (mnI 9 (τ 67 q + τ 96 j)))) 93 i (τ 93 i + 1)) 95 i = τ 95 i from rfl]
              refine r_iconst (pc := 123) C (v := 1) dX6_look_123 (by decide) ?_
              refine r_iload1 (pc := 124) C dX6_look_124 ?_
              refine r_ishl (pc := 125) C dX6_look_125 ?_
              refine r_ior (pc := 126) C dX6_look_126 ?_
              refine b435 (pc := 127) C hT rfl (by omega) dX6_look_127 ?_
              refine r_iload4 (pc := 128) C dX6_look_128 ?_
              exact r_iret C rfl dX6_look_130 (by first | exact ⟨fun q => absurd q hno, fun _ => ⟨rfl, rfl⟩⟩ | exact ⟨fun _ => ⟨rfl, rfl⟩, fun q => absurd rfl q⟩) (by decide) (by decide)
            · have hno : ¬ (cd2 ((0 ≤ x ∧ x ≤ 2) ∧ (0 ≤ (nI i) ∧ (nI i) < nI ng)) ((σ 95 i >>> (x &&& 31)) &&& 1 = 0 ∧ gradeM σ i = -1)) = 0 := cd2_f (by assumption)
              refine r_iconst (pc := 62) C (v := 0) dX6_look_62 (by decide) ?_
              exact r_iret C rfl dX6_look_63 (by first | exact ⟨fun q => absurd q hno, fun _ => ⟨rfl, rfl⟩⟩ | exact ⟨fun _ => ⟨rfl, rfl⟩, fun q => absurd rfl q⟩) (by decide) (by decide)
          · obtain ⟨c0, hc0, hce0⟩ := hlc i hi
            have hl3 : σ 93 i ≤ 3 := by rw [hce0]; exact (nI_leI (b := 3) (by omega) (by decide)).mpr hc0
            refine r_aload0 (pc := 42) C dX6_look_42 ?_
            refine r_iload2 (pc := 43) C dX6_look_43 ?_
            refine kX6_197 (pc := 44) C (c_X6_gradeOf l D _ _ _ hT (by omega) hl3) (hT.f (by decide)) rfl dX6_look_44 (Nat.le_of_ble_eq_true rfl) (by decide) ?_
            rintro _ _ ⟨rfl, rfl⟩
            refine r_iconst (pc := 47) C (v := (-1)) dX6_look_47 (by decide) ?_
            refine r_icmp_ne (pc := 48) C (tgt := 55) dX6_look_48 (by decide) (fun c_48 => ?_) (fun c_48 => ?_)
            · refine r_iconst (pc := 55) C (v := 0) dX6_look_55 (by decide) ?_
              refine kX6_124 (pc := 56) C (ask2 l D _ _ _ hT ((0 ≤ x ∧ x ≤ 2) ∧ (0 ≤ (nI i) ∧ (nI i) < nI ng)) ((σ 95 i >>> (x &&& 31)) &&& 1 = 0 ∧ gradeM σ i = -1) (by first | rfl | exact (bI_t (by assumption)).symm | exact (bI_f (by assumption)).symm | exact (bI_t ⟨by assumption, by assumption⟩).symm | exact (bI_t ⟨by assumption, by assumption, by assumption⟩).symm | exact (bI_f (by rintro ⟨h1, h2⟩; first | exact absurd h1 (by assumption) | exact absurd h2 (by assumption))).symm | exact (bI_f (by rintro ⟨h1, h2, h3⟩; first | exact absurd h2 (by assumption) | exact absurd h3 (by assumption))).symm | exact bI_c (by grind) | exact (bI_t (by grind)).symm | exact (bI_f (by grind)).symm) (fun hP0 => by first | rfl | exact absurd hP0 (by with_reducible assumption) | (obtain ⟨hp1, hp2⟩ := hP0; first | exact absurd hp1 (by with_reducible assumption) | exact absurd hp2 (by with_reducible assumption)) | exact (bI_t (by assumption)).symm | exact (bI_f (by assumption)).symm | exact (bI_t ⟨by assumption, by assumption⟩).symm | exact (bI_t ⟨by assumption, by assumption, by assumption⟩).symm | exact (bI_f (by rintro ⟨h1, h2⟩; first | exact absurd h1 (by assumption) | exact absurd h2 (by assumption))).symm | exact (bI_f (by rintro ⟨h1, h2, h3⟩; first | exact absurd h2 (by assumption) | exact absurd h3 (by assumption))).symm | exact bI_c (by grind) | exact (bI_t (by grind)).symm | exact (bI_f (by grind)).symm)) (hT.f (by decide)) rfl dX6_look_56 (Nat.le_of_ble_eq_true rfl) (by decide) ?_
              rintro _ _ ⟨rfl, rfl⟩
              refine r_if_ne_b (pc := 59) C (tgt := 64) dX6_look_59 (by decide) (fun c_59 => ?_) (fun c_59 => ?_)
              · have hok : (cd2 ((0 ≤ x ∧ x ≤ 2) ∧ (0 ≤ (nI i) ∧ (nI i) < nI ng)) ((σ 95 i >>> (x &&& 31)) &&& 1 = 0 ∧ gradeM σ i = -1)) = 0 := cd2_t c_59
                rw [hok]
                obtain ⟨τ, hτ⟩ : ∃ τ, up σ 60 0 0 = τ := ⟨_, rfl⟩
                rw [hτ]
                obtain ⟨hm1, hm3, hm26, hm18, hnp, hnr, hng, hnb5, hb, hsc, hlc, hpa, hro, hof, hte⟩ := (hτ ▸ ML_up 0 hS : ML nr ng np nb τ)
                obtain ⟨hP, hQ⟩ := c_59
                obtain ⟨hP1, hP2⟩ := hP
                obtain ⟨j, hj, rfl⟩ := ul_s (n := 2) (by omega) hP1
                rw [nI_clamp (by omega)]
                obtain ⟨c3, hc3, hce⟩ := hlc i hi
                have hc4 : c3 < 3 := by
                  rcases (show c3 < 3 ∨ c3 = 3 by omega) with z | z
                  · exact z
                  · refine absurd hQ.2 ?_
                    have h9 : σ 93 i = 3 := by
                      have h8 : τ 93 i = σ 93 i := by rw [← hτ]; rfl
                      rw [← h8, hce, z]; rfl
                    unfold gradeM; rw [h9]; exact grade_3 (hlk _) (hlk _) (hlk _)
                obtain ⟨q, hq, hqx⟩ := hro i hi
                rw [show (τ 93 i).toNatClampNeg = c3 by rw [hce, nI_clamp (by omega)], show (τ 87 i).toNatClampNeg = q by rw [hqx, nI_clamp (by omega)]]
                refine r_aload0 (pc := 64) C dX6_look_64 ?_
                refine gX6_22 (pc := 65) C hT dX6_look_65 ?_
                refine r_aload0 (pc := 68) C dX6_look_68 ?_
                refine gX6_75 (pc := 69) C hT dX6_look_69 ?_
                refine r_iload2 (pc := 72) C dX6_look_72 ?_
                refine a427 (pc := 73) C hT rfl (by omega) dX6_look_73 ?_
                refine a407 (pc := 74) C hT hqx (by omega) dX6_look_74 ?_
                refine r_aload0 (pc := 75) C dX6_look_75 ?_
                refine gX6_102 (pc := 76) C hT dX6_look_76 ?_
                refine r_iload1 (pc := 79) C dX6_look_79 ?_
                refine a436 (pc := 80) C hT rfl (by omega) dX6_look_80 ?_
                refine r_iadd (pc := 81) C dX6_look_81 ?_
                refine r_bipush (pc := 82) C (v := 9) dX6_look_82 (by decide) ?_
                refine kX6_135 (pc := 84) C (c_X6_within l D _ _ _ (by decide)) dX6_look_84 (Nat.le_of_ble_eq_true rfl) (by decide) ?_
                rintro _ _ ⟨rfl, rfl⟩
                refine r_istore4 (pc := 87) C dX6_look_87 ?_
                refine r_aload0 (pc := 89) C dX6_look_89 ?_
                refine gX6_96 (pc := 90) C hT dX6_look_90 ?_
                refine r_iconst (pc := 93) C (v := 3) dX6_look_93 (by decide) ?_
                refine r_iload2 (pc := 94) C dX6_look_94 ?_
                refine r_imul (pc := 95) C dX6_look_95 ?_
                refine r_aload0 (pc := 96) C dX6_look_96 ?_
                refine gX6_93 (pc := 97) C hT dX6_look_97 ?_
                refine r_iload2 (pc := 100) C dX6_look_100 ?_
                refine a433 (pc := 101) C hT rfl (by omega) dX6_look_101 ?_
                refine r_iadd (pc := 102) C dX6_look_102 ?_
                refine r_iload4 (pc := 103) C dX6_look_103 ?_
                refine b434 (pc := 105) C hT (show (3 : Int32) * nI i + τ 93 i = nI (3 * i + c3) by rw [hce]; exact ix3n i c3) (by omega) dX6_look_105 ?_
                refine r_aload0 (pc := 106) C dX6_look_106 ?_
                refine gX6_93 (pc := 107) C hT dX6_look_107 ?_
                refine r_iload2 (pc := 110) C dX6_look_110 ?_
                refine r_dup2 (pc := 111) C dX6_look_111 rfl rfl ?_
                refine a433 (pc := 112) C hT rfl (by omega) dX6_look_112 ?_
                rw [show (up τ 94 (3 * i + c3) (mxI 0 (mnI 9 (τ 67 q + τ 96 j)))) 93 i = τ 93 i from rfl]
                refine r_iconst (pc := 113) C (v := 1) dX6_look_113 (by decide) ?_
                refine r_iadd (pc := 114) C dX6_look_114 ?_
                refine b433 (pc := 115) C hT rfl (by omega) dX6_look_115 ?_
                refine r_aload0 (pc := 116) C dX6_look_116 ?_
                refine gX6_99 (pc := 117) C hT dX6_look_117 ?_
                refine r_iload2 (pc := 120) C dX6_look_120 ?_
                refine r_dup2 (pc := 121) C dX6_look_121 rfl rfl ?_
                refine a435 (pc := 122) C hT rfl (by omega) dX6_look_122 ?_
                rw [show (up (up τ 94 (3 * i + c3) (mxI 0 (mnI 9 (τ 67 q + τ 96 j)))) 93 i (τ 93 i + 1)) 95 i = τ 95 i from rfl]
                refine r_iconst (pc := 123) C (v := 1) dX6_look_123 (by decide) ?_
                refine r_iload1 (pc := 124) C dX6_look_124 ?_
                refine r_ishl (pc := 125) C dX6_look_125 ?_
                refine r_ior (pc := 126) C dX6_look_126 ?_
                refine b435 (pc := 127) C hT rfl (by omega) dX6_look_127 ?_
                refine r_iload4 (pc := 128) C dX6_look_128 ?_
                exact r_iret C rfl dX6_look_130 (by first | exact ⟨fun q => absurd q hno, fun _ => ⟨rfl, rfl⟩⟩ | exact ⟨fun _ => ⟨rfl, rfl⟩, fun q => absurd rfl q⟩) (by decide) (by decide)
              · have hno : ¬ (cd2 ((0 ≤ x ∧ x ≤ 2) ∧ (0 ≤ (nI i) ∧ (nI i) < nI ng)) ((σ 95 i >>> (x &&& 31)) &&& 1 = 0 ∧ gradeM σ i = -1)) = 0 := cd2_f (by assumption)
                refine r_iconst (pc := 62) C (v := 0) dX6_look_62 (by decide) ?_
                exact r_iret C rfl dX6_look_63 (by first | exact ⟨fun q => absurd q hno, fun _ => ⟨rfl, rfl⟩⟩ | exact ⟨fun _ => ⟨rfl, rfl⟩, fun q => absurd rfl q⟩) (by decide) (by decide)
            · refine r_iconst (pc := 51) C (v := 1) dX6_look_51 (by decide) ?_
              refine r_goto (pc := 52) C (tgt := 56) dX6_look_52 (by decide) ?_
              refine kX6_124 (pc := 56) C (ask2 l D _ _ _ hT ((0 ≤ x ∧ x ≤ 2) ∧ (0 ≤ (nI i) ∧ (nI i) < nI ng)) ((σ 95 i >>> (x &&& 31)) &&& 1 = 0 ∧ gradeM σ i = -1) (by first | rfl | exact (bI_t (by assumption)).symm | exact (bI_f (by assumption)).symm | exact (bI_t ⟨by assumption, by assumption⟩).symm | exact (bI_t ⟨by assumption, by assumption, by assumption⟩).symm | exact (bI_f (by rintro ⟨h1, h2⟩; first | exact absurd h1 (by assumption) | exact absurd h2 (by assumption))).symm | exact (bI_f (by rintro ⟨h1, h2, h3⟩; first | exact absurd h2 (by assumption) | exact absurd h3 (by assumption))).symm | exact bI_c (by grind) | exact (bI_t (by grind)).symm | exact (bI_f (by grind)).symm) (fun hP0 => by first | rfl | exact absurd hP0 (by with_reducible assumption) | (obtain ⟨hp1, hp2⟩ := hP0; first | exact absurd hp1 (by with_reducible assumption) | exact absurd hp2 (by with_reducible assumption)) | exact (bI_t (by assumption)).symm | exact (bI_f (by assumption)).symm | exact (bI_t ⟨by assumption, by assumption⟩).symm | exact (bI_t ⟨by assumption, by assumption, by assumption⟩).symm | exact (bI_f (by rintro ⟨h1, h2⟩; first | exact absurd h1 (by assumption) | exact absurd h2 (by assumption))).symm | exact (bI_f (by rintro ⟨h1, h2, h3⟩; first | exact absurd h2 (by assumption) | exact absurd h3 (by assumption))).symm | exact bI_c (by grind) | exact (bI_t (by grind)).symm | exact (bI_f (by grind)).symm)) (hT.f (by decide)) rfl dX6_look_56 (Nat.le_of_ble_eq_true rfl) (by decide) ?_
              rintro _ _ ⟨rfl, rfl⟩
              refine r_if_ne_b (pc := 59) C (tgt := 64) dX6_look_59 (by decide) (fun c_59 => ?_) (fun c_59 => ?_)
              · have hok : (cd2 ((0 ≤ x ∧ x ≤ 2) ∧ (0 ≤ (nI i) ∧ (nI i) < nI ng)) ((σ 95 i >>> (x &&& 31)) &&& 1 = 0 ∧ gradeM σ i = -1)) = 0 := cd2_t c_59
                rw [hok]
                obtain ⟨τ, hτ⟩ : ∃ τ, up σ 60 0 0 = τ := ⟨_, rfl⟩
                rw [hτ]
                obtain ⟨hm1, hm3, hm26, hm18, hnp, hnr, hng, hnb5, hb, hsc, hlc, hpa, hro, hof, hte⟩ := (hτ ▸ ML_up 0 hS : ML nr ng np nb τ)
                obtain ⟨hP, hQ⟩ := c_59
                obtain ⟨hP1, hP2⟩ := hP
                obtain ⟨j, hj, rfl⟩ := ul_s (n := 2) (by omega) hP1
                rw [nI_clamp (by omega)]
                obtain ⟨c3, hc3, hce⟩ := hlc i hi
                have hc4 : c3 < 3 := by
                  rcases (show c3 < 3 ∨ c3 = 3 by omega) with z | z
                  · exact z
                  · refine absurd hQ.2 ?_
                    have h9 : σ 93 i = 3 := by
                      have h8 : τ 93 i = σ 93 i := by rw [← hτ]; rfl
                      rw [← h8, hce, z]; rfl
                    unfold gradeM; rw [h9]; exact grade_3 (hlk _) (hlk _) (hlk _)
                obtain ⟨q, hq, hqx⟩ := hro i hi
                rw [show (τ 93 i).toNatClampNeg = c3 by rw [hce, nI_clamp (by omega)], show (τ 87 i).toNatClampNeg = q by rw [hqx, nI_clamp (by omega)]]
                refine r_aload0 (pc := 64) C dX6_look_64 ?_
                refine gX6_22 (pc := 65) C hT dX6_look_65 ?_
                refine r_aload0 (pc := 68) C dX6_look_68 ?_
                refine gX6_75 (pc := 69) C hT dX6_look_69 ?_
                refine r_iload2 (pc := 72) C dX6_look_72 ?_
                refine a427 (pc := 73) C hT rfl (by omega) dX6_look_73 ?_
                refine a407 (pc := 74) C hT hqx (by omega) dX6_look_74 ?_
                refine r_aload0 (pc := 75) C dX6_look_75 ?_
                refine gX6_102 (pc := 76) C hT dX6_look_76 ?_
                refine r_iload1 (pc := 79) C dX6_look_79 ?_
                refine a436 (pc := 80) C hT rfl (by omega) dX6_look_80 ?_
                refine r_iadd (pc := 81) C dX6_look_81 ?_
                refine r_bipush (pc := 82) C (v := 9) dX6_look_82 (by decide) ?_
                refine kX6_135 (pc := 84) C (c_X6_within l D _ _ _ (by decide)) dX6_look_84 (Nat.le_of_ble_eq_true rfl) (by decide) ?_
                rintro _ _ ⟨rfl, rfl⟩
                refine r_istore4 (pc := 87) C dX6_look_87 ?_
                refine r_aload0 (pc := 89) C dX6_look_89 ?_
                refine gX6_96 (pc := 90) C hT dX6_look_90 ?_
                refine r_iconst (pc := 93) C (v := 3) dX6_look_93 (by decide) ?_
                refine r_iload2 (pc := 94) C dX6_look_94 ?_
                refine r_imul (pc := 95) C dX6_look_95 ?_
                refine r_aload0 (pc := 96) C dX6_look_96 ?_
                refine gX6_93 (pc := 97) C hT dX6_look_97 ?_
                refine r_iload2 (pc := 100) C dX6_look_100 ?_
                refine a433 (pc := 101) C hT rfl (by omega) dX6_look_101 ?_
                refine r_iadd (pc := 102) C dX6_look_102 ?_
                refine r_iload4 (pc := 103) C dX6_look_103 ?_
                refine b434 (pc := 105) C hT (show (3 : Int32) * nI i + τ 93 i = nI (3 * i + c3) by rw [hce]; exact ix3n i c3) (by omega) dX6_look_105 ?_
                refine r_aload0 (pc := 106) C dX6_look_106 ?_
                refine gX6_93 (pc := 107) C hT dX6_look_107 ?_
                refine r_iload2 (pc := 110) C dX6_look_110 ?_
                refine r_dup2 (pc := 111) C dX6_look_111 rfl rfl ?_
                refine a433 (pc := 112) C hT rfl (by omega) dX6_look_112 ?_
                rw [show (up τ 94 (3 * i + c3) (mxI 0 (mnI 9 (τ 67 q + τ 96 j)))) 93 i = τ 93 i from rfl]
                refine r_iconst (pc := 113) C (v := 1) dX6_look_113 (by decide) ?_
                refine r_iadd (pc := 114) C dX6_look_114 ?_
                refine b433 (pc := 115) C hT rfl (by omega) dX6_look_115 ?_
                refine r_aload0 (pc := 116) C dX6_look_116 ?_
                refine gX6_99 (pc := 117) C hT dX6_look_117 ?_
                refine r_iload2 (pc := 120) C dX6_look_120 ?_
                refine r_dup2 (pc := 121) C dX6_look_121 rfl rfl ?_
                refine a435 (pc := 122) C hT rfl (by omega) dX6_look_122 ?_
                rw [show (up (up τ 94 (3 * i + c3) (mxI 0 (mnI 9 (τ 67 q + τ 96 j)))) 93 i (τ 93 i + 1)) 95 i = τ 95 i from rfl]
                refine r_iconst (pc := 123) C (v := 1) dX6_look_123 (by decide) ?_
                refine r_iload1 (pc := 124) C dX6_look_124 ?_
                refine r_ishl (pc := 125) C dX6_look_125 ?_
                refine r_ior (pc := 126) C dX6_look_126 ?_
                refine b435 (pc := 127) C hT rfl (by omega) dX6_look_127 ?_
                refine r_iload4 (pc := 128) C dX6_look_128 ?_
                exact r_iret C rfl dX6_look_130 (by first | exact ⟨fun q => absurd q hno, fun _ => ⟨rfl, rfl⟩⟩ | exact ⟨fun _ => ⟨rfl, rfl⟩, fun q => absurd rfl q⟩) (by decide) (by decide)
              · have hno : ¬ (cd2 ((0 ≤ x ∧ x ≤ 2) ∧ (0 ≤ (nI i) ∧ (nI i) < nI ng)) ((σ 95 i >>> (x &&& 31)) &&& 1 = 0 ∧ gradeM σ i = -1)) = 0 := cd2_f (by assumption)
                refine r_iconst (pc := 62) C (v := 0) dX6_look_62 (by decide) ?_
                exact r_iret C rfl dX6_look_63 (by first | exact ⟨fun q => absurd q hno, fun _ => ⟨rfl, rfl⟩⟩ | exact ⟨fun _ => ⟨rfl, rfl⟩, fun q => absurd rfl q⟩) (by decide) (by decide)
  · refine r_iload1 (pc := 0) C dX6_look_0 ?_
    refine r_iconst (pc := 1) C (v := 0) dX6_look_1 (by decide) ?_
    refine r_iconst (pc := 2) C (v := 2) dX6_look_2 (by decide) ?_
    refine kX6_114 (pc := 3) C (c_X6_in l D _ _ _ _) dX6_look_3 (Nat.le_of_ble_eq_true rfl) (by decide) ?_
    rintro _ _ ⟨rfl, rfl⟩
    refine r_if_eq_b (pc := 6) C (tgt := 21) dX6_look_6 (by decide) (fun c_6 => ?_) (fun c_6 => ?_)
    · refine r_iconst (pc := 21) C (v := 0) dX6_look_21 (by decide) ?_
      refine r_istore3 (pc := 22) C dX6_look_22 ?_
      refine r_aload0 (pc := 23) C dX6_look_23 ?_
      refine r_iload3 (pc := 24) C dX6_look_24 ?_
      refine r_iload3 (pc := 25) C dX6_look_25 ?_
      refine r_if_eq (pc := 26) C (tgt := 55) dX6_look_26 (by decide) (fun c_26 => ?_) (fun c_26 => ?_)
      · refine r_iconst (pc := 55) C (v := 0) dX6_look_55 (by decide) ?_
        refine kX6_124 (pc := 56) C (ask2 l D _ _ _ hT ((0 ≤ x ∧ x ≤ 2) ∧ (0 ≤ y ∧ y < nI ng)) ((σ 95 y.toNatClampNeg >>> (x &&& 31)) &&& 1 = 0 ∧ gradeM σ y.toNatClampNeg = -1) (by first | rfl | exact (bI_t (by assumption)).symm | exact (bI_f (by assumption)).symm | exact (bI_t ⟨by assumption, by assumption⟩).symm | exact (bI_t ⟨by assumption, by assumption, by assumption⟩).symm | exact (bI_f (by rintro ⟨h1, h2⟩; first | exact absurd h1 (by assumption) | exact absurd h2 (by assumption))).symm | exact (bI_f (by rintro ⟨h1, h2, h3⟩; first | exact absurd h2 (by assumption) | exact absurd h3 (by assumption))).symm | exact bI_c (by grind) | exact (bI_t (by grind)).symm | exact (bI_f (by grind)).symm) (fun hP0 => by first | rfl | exact absurd hP0 (by with_reducible assumption) | (obtain ⟨hp1, hp2⟩ := hP0; first | exact absurd hp1 (by with_reducible assumption) | exact absurd hp2 (by with_reducible assumption)) | exact (bI_t (by assumption)).symm | exact (bI_f (by assumption)).symm | exact (bI_t ⟨by assumption, by assumption⟩).symm | exact (bI_t ⟨by assumption, by assumption, by assumption⟩).symm | exact (bI_f (by rintro ⟨h1, h2⟩; first | exact absurd h1 (by assumption) | exact absurd h2 (by assumption))).symm | exact (bI_f (by rintro ⟨h1, h2, h3⟩; first | exact absurd h2 (by assumption) | exact absurd h3 (by assumption))).symm | exact bI_c (by grind) | exact (bI_t (by grind)).symm | exact (bI_f (by grind)).symm)) (hT.f (by decide)) rfl dX6_look_56 (Nat.le_of_ble_eq_true rfl) (by decide) ?_
        rintro _ _ ⟨rfl, rfl⟩
        refine r_if_ne_b (pc := 59) C (tgt := 64) dX6_look_59 (by decide) (fun c_59 => ?_) (fun c_59 => ?_)
        · first | exact absurd c_59.1 h_y | exact absurd c_59.1.2 h_y | exact absurd c_59.1.1 h_y | (exfalso; grind)
        · have hno : ¬ (cd2 ((0 ≤ x ∧ x ≤ 2) ∧ (0 ≤ y ∧ y < nI ng)) ((σ 95 y.toNatClampNeg >>> (x &&& 31)) &&& 1 = 0 ∧ gradeM σ y.toNatClampNeg = -1)) = 0 := cd2_f (by assumption)
          refine r_iconst (pc := 62) C (v := 0) dX6_look_62 (by decide) ?_
          exact r_iret C rfl dX6_look_63 (by first | exact ⟨fun q => absurd q hno, fun _ => ⟨rfl, rfl⟩⟩ | exact ⟨fun _ => ⟨rfl, rfl⟩, fun q => absurd rfl q⟩) (by decide) (by decide)
      · exact absurd rfl c_26
    · refine r_aload0 (pc := 9) C dX6_look_9 ?_
      refine r_iload2 (pc := 10) C dX6_look_10 ?_
      refine kX6_194 (pc := 11) C (c_X6_isPolished l D _ _ _ hT _ hm26) (hT.f (by decide)) rfl dX6_look_11 (Nat.le_of_ble_eq_true rfl) (by decide) ?_
      rintro _ _ ⟨rfl, rfl⟩
      refine r_if_eq_b (pc := 14) C (tgt := 21) dX6_look_14 (by decide) (fun c_14 => ?_) (fun c_14 => ?_)
      · refine r_iconst (pc := 21) C (v := 0) dX6_look_21 (by decide) ?_
        refine r_istore3 (pc := 22) C dX6_look_22 ?_
        refine r_aload0 (pc := 23) C dX6_look_23 ?_
        refine r_iload3 (pc := 24) C dX6_look_24 ?_
        refine r_iload3 (pc := 25) C dX6_look_25 ?_
        refine r_if_eq (pc := 26) C (tgt := 55) dX6_look_26 (by decide) (fun c_26 => ?_) (fun c_26 => ?_)
        · refine r_iconst (pc := 55) C (v := 0) dX6_look_55 (by decide) ?_
          refine kX6_124 (pc := 56) C (ask2 l D _ _ _ hT ((0 ≤ x ∧ x ≤ 2) ∧ (0 ≤ y ∧ y < nI ng)) ((σ 95 y.toNatClampNeg >>> (x &&& 31)) &&& 1 = 0 ∧ gradeM σ y.toNatClampNeg = -1) (by first | rfl | exact (bI_t (by assumption)).symm | exact (bI_f (by assumption)).symm | exact (bI_t ⟨by assumption, by assumption⟩).symm | exact (bI_t ⟨by assumption, by assumption, by assumption⟩).symm | exact (bI_f (by rintro ⟨h1, h2⟩; first | exact absurd h1 (by assumption) | exact absurd h2 (by assumption))).symm | exact (bI_f (by rintro ⟨h1, h2, h3⟩; first | exact absurd h2 (by assumption) | exact absurd h3 (by assumption))).symm | exact bI_c (by grind) | exact (bI_t (by grind)).symm | exact (bI_f (by grind)).symm) (fun hP0 => by first | rfl | exact absurd hP0 (by with_reducible assumption) | (obtain ⟨hp1, hp2⟩ := hP0; first | exact absurd hp1 (by with_reducible assumption) | exact absurd hp2 (by with_reducible assumption)) | exact (bI_t (by assumption)).symm | exact (bI_f (by assumption)).symm | exact (bI_t ⟨by assumption, by assumption⟩).symm | exact (bI_t ⟨by assumption, by assumption, by assumption⟩).symm | exact (bI_f (by rintro ⟨h1, h2⟩; first | exact absurd h1 (by assumption) | exact absurd h2 (by assumption))).symm | exact (bI_f (by rintro ⟨h1, h2, h3⟩; first | exact absurd h2 (by assumption) | exact absurd h3 (by assumption))).symm | exact bI_c (by grind) | exact (bI_t (by grind)).symm | exact (bI_f (by grind)).symm)) (hT.f (by decide)) rfl dX6_look_56 (Nat.le_of_ble_eq_true rfl) (by decide) ?_
          rintro _ _ ⟨rfl, rfl⟩
          refine r_if_ne_b (pc := 59) C (tgt := 64) dX6_look_59 (by decide) (fun c_59 => ?_) (fun c_59 => ?_)
          · first | exact absurd c_59.1 h_y | exact absurd c_59.1.2 h_y | exact absurd c_59.1.1 h_y | (exfalso; grind)
          · have hno : ¬ (cd2 ((0 ≤ x ∧ x ≤ 2) ∧ (0 ≤ y ∧ y < nI ng)) ((σ 95 y.toNatClampNeg >>> (x &&& 31)) &&& 1 = 0 ∧ gradeM σ y.toNatClampNeg = -1)) = 0 := cd2_f (by assumption)
            refine r_iconst (pc := 62) C (v := 0) dX6_look_62 (by decide) ?_
            exact r_iret C rfl dX6_look_63 (by first | exact ⟨fun q => absurd q hno, fun _ => ⟨rfl, rfl⟩⟩ | exact ⟨fun _ => ⟨rfl, rfl⟩, fun q => absurd rfl q⟩) (by decide) (by decide)
        · exact absurd rfl c_26
      · exact absurd c_14 h_y


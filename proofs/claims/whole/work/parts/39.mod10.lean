def stM (σ : Mm) (nr : Nat) (x1 x2 x3 x4 x5 : Int32) : Mm := up (up (up (up (up (up (up (up (σ) 64 nr x1) 65 nr x2) 66 nr x3) 67 nr x4) 68 nr x5) 70 nr (-1)) 71 nr (-1)) 60 3 (nI (nr + 1))
set_option maxRecDepth 100000 in
set_option maxHeartbeats 1000000 in
theorem c_X6_stone (l : Launch) (D : Gt) (T : List Nat) (ad : Nat → Nat) (σ : Mm) {nr ng n1 n2 : Nat} (hT : TG n1 n2 T) {np nb : Nat} (hM : ML nr ng np nb σ) (x1 x2 x3 x4 x5 : Int32) : KI D l yX6_stone (uws yX6_stone cX6_stone 7 (some .int)) (RM 7 0 0) [.ref (ad 400), .int x1, .int x2, .int x3, .int x4, .int x5] (T, ad, cO D ad σ) (fun r S1 => ((cd3 (0 ≤ x1 ∧ x1 < nI np) ((12 ≤ x2 ∧ x2 ≤ 9999) ∧ (0 ≤ x3 ∧ x3 ≤ 9) ∧ (0 ≤ x4 ∧ x4 ≤ 9) ∧ (0 ≤ x5 ∧ x5 ≤ 4095)) (σ 60 3 < 40)) = 0 → r = nI nr ∧ S1 = (T, ad, cO D ad (stM (up σ 60 0 0) nr x1 x2 x3 x4 x5))) ∧ (¬ (cd3 (0 ≤ x1 ∧ x1 < nI np) ((12 ≤ x2 ∧ x2 ≤ 9999) ∧ (0 ≤ x3 ∧ x3 ≤ 9) ∧ (0 ≤ x4 ∧ x4 ≤ 9) ∧ (0 ≤ x5 ∧ x5 ≤ 4095)) (σ 60 3 < 40)) = 0 → r = 0 ∧ S1 = (T, ad, cO D ad (up σ 60 0 (cd3 (0 ≤ x1 ∧ x1 < nI np) ((12 ≤ x2 ∧ x2 ≤ 9999) ∧ (0 ≤ x3 ∧ x3 ≤ 9) ∧ (0 ≤ x4 ∧ x4 ≤ 9) ∧ (0 ≤ x5 ∧ x5 ≤ 4095)) (σ 60 3 < 40)))))) (nX) 0 0 := by
  refine KI_of (own := RX6) (L0 := [some (.ref (ad 400)), some (.int x1), some (.int x2), some (.int x3), some (.int x4), some (.int x5), none]) (by decide +kernel) rfl (catc rfl (catc rfl (catc rfl (catc rfl (catc rfl (catc rfl cat0)))))) (Nat.le_of_ble_eq_true rfl) rfl ?_
  intro p e s m args below meth c A hnm C
  have hS := hM
  obtain ⟨hm1, hm3, hm26, hm18, hnp, hnr, hng, hnb5, hb, hsc, hlc, hpa, hro, hof, hte⟩ := hM
  have J : ∀ v : Int32, v = bI ((12 ≤ x2 ∧ x2 ≤ 9999) ∧ (0 ≤ x3 ∧ x3 ≤ 9) ∧ (0 ≤ x4 ∧ x4 ≤ 9) ∧ (0 ≤ x5 ∧ x5 ≤ 4095)) → V D A 7 (T, ad, cO D ad σ) p l e (RM 7 0 0) s m args below meth c 0 0 (vx_MQ below (va_Qi (fun r S1 => ((cd3 (0 ≤ x1 ∧ x1 < nI np) ((12 ≤ x2 ∧ x2 ≤ 9999) ∧ (0 ≤ x3 ∧ x3 ≤ 9) ∧ (0 ≤ x4 ∧ x4 ≤ 9) ∧ (0 ≤ x5 ∧ x5 ≤ 4095)) (σ 60 3 < 40)) = 0 → r = nI nr ∧ S1 = (T, ad, cO D ad (stM (up σ 60 0 0) nr x1 x2 x3 x4 x5))) ∧ (¬ (cd3 (0 ≤ x1 ∧ x1 < nI np) ((12 ≤ x2 ∧ x2 ≤ 9999) ∧ (0 ≤ x3 ∧ x3 ≤ 9) ∧ (0 ≤ x4 ∧ x4 ≤ 9) ∧ (0 ≤ x5 ∧ x5 ≤ 4095)) (σ 60 3 < 40)) = 0 → r = 0 ∧ S1 = (T, ad, cO D ad (up σ 60 0 (cd3 (0 ≤ x1 ∧ x1 < nI np) ((12 ≤ x2 ∧ x2 ≤ 9999) ∧ (0 ≤ x3 ∧ x3 ≤ 9) ∧ (0 ≤ x4 ∧ x4 ≤ 9) ∧ (0 ≤ x5 ∧ x5 ≤ 4095)) (σ 60 3 < 40)))))) (PoB D A) A) (XCs D (T, ad, cO D ad σ) A (nX)) args s 0 0 A) 50 [some (.ref (ad 400)), some (.int x1), some (.int x2), some (.int x3), some (.int x4), some (.int x5), none] [.int v] := by
    intro v hv
    subst hv
    refine r_istore6 (pc := 50) C dX6_stone_50 ?_
    refine r_aload0 (pc := 52) C dX6_stone_52 ?_
    refine r_iload1 (pc := 53) C dX6_stone_53 ?_
    refine r_iconst (pc := 54) C (v := 0) dX6_stone_54 (by decide) ?_
    refine r_aload0 (pc := 55) C dX6_stone_55 ?_
    refine gX6_121 (pc := 56) C hT dX6_stone_56 ?_
    refine r_iconst (pc := 59) C (v := 1) dX6_stone_59 (by decide) ?_
    rw [hm1]
    refine r_isub (pc := 60) C dX6_stone_60 ?_
    refine kX6_114 (pc := 61) C (c_X6_in l D _ _ _ _) dX6_stone_61 (Nat.le_of_ble_eq_true rfl) (by decide) ?_
    rintro _ _ ⟨rfl, rfl⟩
    refine r_iload6 (pc := 64) C dX6_stone_64 ?_
    refine r_aload0 (pc := 66) C dX6_stone_66 ?_
    refine gX6_111 (pc := 67) C hT dX6_stone_67 ?_
    refine r_bipush (pc := 70) C (v := 40) dX6_stone_70 (by decide) ?_
    refine r_icmp_ge (pc := 72) C (tgt := 79) dX6_stone_72 (by decide) (fun c_72 => ?_) (fun c_72 => ?_)
    · refine r_iconst (pc := 79) C (v := 0) dX6_stone_79 (by decide) ?_
      refine kX6_128 (pc := 80) C (ask3 l D _ _ _ hT (0 ≤ x1 ∧ x1 < nI np) ((12 ≤ x2 ∧ x2 ≤ 9999) ∧ (0 ≤ x3 ∧ x3 ≤ 9) ∧ (0 ≤ x4 ∧ x4 ≤ 9) ∧ (0 ≤ x5 ∧ x5 ≤ 4095)) (σ 60 3 < 40) (bI_c (by rw [le_pred (by omega)])) (fun hP0 => rfl) (fun hP0 hP1 => by first | exact (bI_t (Int32.not_le.mp c_72)).symm | exact (bI_f (fun h => absurd h (Int32.not_lt.mpr c_72))).symm)) (hT.f (by decide)) rfl dX6_stone_80 (Nat.le_of_ble_eq_true rfl) (by decide) ?_
      rintro _ _ ⟨rfl, rfl⟩
      refine r_if_ne_b (pc := 83) C (tgt := 88) dX6_stone_83 (by decide) (fun c_83 => ?_) (fun c_83 => ?_)
      · have hok : (cd3 (0 ≤ x1 ∧ x1 < nI np) ((12 ≤ x2 ∧ x2 ≤ 9999) ∧ (0 ≤ x3 ∧ x3 ≤ 9) ∧ (0 ≤ x4 ∧ x4 ≤ 9) ∧ (0 ≤ x5 ∧ x5 ≤ 4095)) (σ 60 3 < 40)) = 0 := cd3_t c_83
        rw [hok]
        obtain ⟨τ, hτ⟩ : ∃ τ, up σ 60 0 0 = τ := ⟨_, rfl⟩
        rw [hτ]
        obtain ⟨hm1, hm3, hm26, hm18, hnp, hnr, hng, hnb5, hb, hsc, hlc, hpa, hro, hof, hte⟩ := (hτ ▸ ML_up 0 hS : ML nr ng np nb τ)
        obtain ⟨hP, hQ, hR⟩ := c_83
        have hlt : nr < 40 := by
          have q := hR
          rw [hS.2.1] at q
          exact (nI_ltI (by omega) (by decide)).mp q
        refine r_aload0 (pc := 88) C dX6_stone_88 ?_
        refine gX6_13 (pc := 89) C hT dX6_stone_89 ?_
        refine r_aload0 (pc := 92) C dX6_stone_92 ?_
        refine gX6_111 (pc := 93) C hT dX6_stone_93 ?_
        refine r_iload1 (pc := 96) C dX6_stone_96 ?_
        refine b404 (pc := 97) C hT hm3 (by omega) dX6_stone_97 ?_
        refine r_aload0 (pc := 98) C dX6_stone_98 ?_
        refine gX6_16 (pc := 99) C hT dX6_stone_99 ?_
        refine r_aload0 (pc := 102) C dX6_stone_102 ?_
        refine gX6_111 (pc := 103) C hT dX6_stone_103 ?_
        refine r_iload2 (pc := 106) C dX6_stone_106 ?_
        refine b405 (pc := 107) C hT hm3 (by omega) dX6_stone_107 ?_
        refine r_aload0 (pc := 108) C dX6_stone_108 ?_
        refine gX6_19 (pc := 109) C hT dX6_stone_109 ?_
        refine r_aload0 (pc := 112) C dX6_stone_112 ?_
        refine gX6_111 (pc := 113) C hT dX6_stone_113 ?_
        refine r_iload3 (pc := 116) C dX6_stone_116 ?_
        refine b406 (pc := 117) C hT hm3 (by omega) dX6_stone_117 ?_
        refine r_aload0 (pc := 118) C dX6_stone_118 ?_
        refine gX6_22 (pc := 119) C hT dX6_stone_119 ?_
        refine r_aload0 (pc := 122) C dX6_stone_122 ?_
        refine gX6_111 (pc := 123) C hT dX6_stone_123 ?_
        refine r_iload4 (pc := 126) C dX6_stone_126 ?_
        refine b407 (pc := 128) C hT hm3 (by omega) dX6_stone_128 ?_
        refine r_aload0 (pc := 129) C dX6_stone_129 ?_
        refine gX6_25 (pc := 130) C hT dX6_stone_130 ?_
        refine r_aload0 (pc := 133) C dX6_stone_133 ?_
        refine gX6_111 (pc := 134) C hT dX6_stone_134 ?_
        refine r_iload5 (pc := 137) C dX6_stone_137 ?_
        refine b408 (pc := 139) C hT hm3 (by omega) dX6_stone_139 ?_
        refine r_aload0 (pc := 140) C dX6_stone_140 ?_
        refine gX6_31 (pc := 141) C hT dX6_stone_141 ?_
        refine r_aload0 (pc := 144) C dX6_stone_144 ?_
        refine gX6_111 (pc := 145) C hT dX6_stone_145 ?_
        refine r_iconst (pc := 148) C (v := (-1)) dX6_stone_148 (by decide) ?_
        refine b410 (pc := 149) C hT hm3 (by omega) dX6_stone_149 ?_
        refine r_aload0 (pc := 150) C dX6_stone_150 ?_
        refine gX6_34 (pc := 151) C hT dX6_stone_151 ?_
        refine r_aload0 (pc := 154) C dX6_stone_154 ?_
        refine gX6_111 (pc := 155) C hT dX6_stone_155 ?_
        refine r_iconst (pc := 158) C (v := (-1)) dX6_stone_158 (by decide) ?_
        refine b411 (pc := 159) C hT hm3 (by omega) dX6_stone_159 ?_
        refine r_aload0 (pc := 160) C dX6_stone_160 ?_
        refine r_dup (pc := 161) C dX6_stone_161 rfl ?_
        refine gX6_111 (pc := 162) C hT dX6_stone_162 ?_
        refine r_iconst (pc := 165) C (v := 1) dX6_stone_165 (by decide) ?_
        refine r_iadd (pc := 166) C dX6_stone_166 ?_
        rw [show (up (up (up (up (up (up (up (τ) 64 nr x1) 65 nr x2) 66 nr x3) 67 nr x4) 68 nr x5) 70 nr (-1)) 71 nr (-1)) 60 3 + 1 = nI (nr + 1) by rw [show (up (up (up (up (up (up (up (τ) 64 nr x1) 65 nr x2) 66 nr x3) 67 nr x4) 68 nr x5) 70 nr (-1)) 71 nr (-1)) 60 3 = τ 60 3 from rfl, hm3]; exact nI_1 nr]
        refine pX6_111 (pc := 167) C hT dX6_stone_167 ?_
        refine r_aload0 (pc := 170) C dX6_stone_170 ?_
        refine gX6_111 (pc := 171) C hT dX6_stone_171 ?_
        refine r_iconst (pc := 174) C (v := 1) dX6_stone_174 (by decide) ?_
        refine r_isub (pc := 175) C dX6_stone_175 ?_
        exact r_iret C rfl dX6_stone_176 (by first | exact ⟨fun q => absurd q hno, fun _ => ⟨rfl, rfl⟩⟩ | exact ⟨fun _ => ⟨by rw [up_self]; exact pk_sub (b := 1) (Nat.le_add_left 1 nr), rfl⟩, fun q => absurd rfl q⟩) (by decide) (by decide)
      · have hno : ¬ (cd3 (0 ≤ x1 ∧ x1 < nI np) ((12 ≤ x2 ∧ x2 ≤ 9999) ∧ (0 ≤ x3 ∧ x3 ≤ 9) ∧ (0 ≤ x4 ∧ x4 ≤ 9) ∧ (0 ≤ x5 ∧ x5 ≤ 4095)) (σ 60 3 < 40)) = 0 := cd3_f (by assumption)
        refine r_iconst (pc := 86) C (v := 0) dX6_stone_86 (by decide) ?_
        exact r_iret C rfl dX6_stone_87 (by first | exact ⟨fun q => absurd q hno, fun _ => ⟨rfl, rfl⟩⟩ | exact ⟨fun _ => ⟨by rw [up_self]; exact pk_sub (b := 1) (Nat.le_add_left 1 nr), rfl⟩, fun q => absurd rfl q⟩) (by decide) (by decide)
    · refine r_iconst (pc := 75) C (v := 1) dX6_stone_75 (by decide) ?_
      refine r_goto (pc := 76) C (tgt := 80) dX6_stone_76 (by decide) ?_
      refine kX6_128 (pc := 80) C (ask3 l D _ _ _ hT (0 ≤ x1 ∧ x1 < nI np) ((12 ≤ x2 ∧ x2 ≤ 9999) ∧ (0 ≤ x3 ∧ x3 ≤ 9) ∧ (0 ≤ x4 ∧ x4 ≤ 9) ∧ (0 ≤ x5 ∧ x5 ≤ 4095)) (σ 60 3 < 40) (bI_c (by rw [le_pred (by omega)])) (fun hP0 => rfl) (fun hP0 hP1 => by first | exact (bI_t (Int32.not_le.mp c_72)).symm | exact (bI_f (fun h => absurd h (Int32.not_lt.mpr c_72))).symm)) (hT.f (by decide)) rfl dX6_stone_80 (Nat.le_of_ble_eq_true rfl) (by decide) ?_
      rintro _ _ ⟨rfl, rfl⟩
      refine r_if_ne_b (pc := 83) C (tgt := 88) dX6_stone_83 (by decide) (fun c_83 => ?_) (fun c_83 => ?_)
      · have hok : (cd3 (0 ≤ x1 ∧ x1 < nI np) ((12 ≤ x2 ∧ x2 ≤ 9999) ∧ (0 ≤ x3 ∧ x3 ≤ 9) ∧ (0 ≤ x4 ∧ x4 ≤ 9) ∧ (0 ≤ x5 ∧ x5 ≤ 4095)) (σ 60 3 < 40)) = 0 := cd3_t c_83
        rw [hok]
        obtain ⟨τ, hτ⟩ : ∃ τ, up σ 60 0 0 = τ := ⟨_, rfl⟩
        rw [hτ]
        obtain ⟨hm1, hm3, hm26, hm18, hnp, hnr, hng, hnb5, hb, hsc, hlc, hpa, hro, hof, hte⟩ := (hτ ▸ ML_up 0 hS : ML nr ng np nb τ)
        obtain ⟨hP, hQ, hR⟩ := c_83
        have hlt : nr < 40 := by
          have q := hR
          rw [hS.2.1] at q
          exact (nI_ltI (by omega) (by decide)).mp q
        refine r_aload0 (pc := 88) C dX6_stone_88 ?_
        refine gX6_13 (pc := 89) C hT dX6_stone_89 ?_
        refine r_aload0 (pc := 92) C dX6_stone_92 ?_
        refine gX6_111 (pc := 93) C hT dX6_stone_93 ?_
        refine r_iload1 (pc := 96) C dX6_stone_96 ?_
        refine b404 (pc := 97) C hT hm3 (by omega) dX6_stone_97 ?_
        refine r_aload0 (pc := 98) C dX6_stone_98 ?_
        refine gX6_16 (pc := 99) C hT dX6_stone_99 ?_
        refine r_aload0 (pc := 102) C dX6_stone_102 ?_
        refine gX6_111 (pc := 103) C hT dX6_stone_103 ?_
        refine r_iload2 (pc := 106) C dX6_stone_106 ?_
        refine b405 (pc := 107) C hT hm3 (by omega) dX6_stone_107 ?_
        refine r_aload0 (pc := 108) C dX6_stone_108 ?_
        refine gX6_19 (pc := 109) C hT dX6_stone_109 ?_
        refine r_aload0 (pc := 112) C dX6_stone_112 ?_
        refine gX6_111 (pc := 113) C hT dX6_stone_113 ?_
        refine r_iload3 (pc := 116) C dX6_stone_116 ?_
        refine b406 (pc := 117) C hT hm3 (by omega) dX6_stone_117 ?_
        refine r_aload0 (pc := 118) C dX6_stone_118 ?_
        refine gX6_22 (pc := 119) C hT dX6_stone_119 ?_
        refine r_aload0 (pc := 122) C dX6_stone_122 ?_
        refine gX6_111 (pc := 123) C hT dX6_stone_123 ?_
        refine r_iload4 (pc := 126) C dX6_stone_126 ?_
        refine b407 (pc := 128) C hT hm3 (by omega) dX6_stone_128 ?_
        refine r_aload0 (pc := 129) C dX6_stone_129 ?_
        refine gX6_25 (pc := 130) C hT dX6_stone_130 ?_
        refine r_aload0 (pc := 133) C dX6_stone_133 ?_
        refine gX6_111 (pc := 134) C hT dX6_stone_134 ?_
        refine r_iload5 (pc := 137) C dX6_stone_137 ?_
        refine b408 (pc := 139) C hT hm3 (by omega) dX6_stone_139 ?_
        refine r_aload0 (pc := 140) C dX6_stone_140 ?_
        refine gX6_31 (pc := 141) C hT dX6_stone_141 ?_
        refine r_aload0 (pc := 144) C dX6_stone_144 ?_
        refine gX6_111 (pc := 145) C hT dX6_stone_145 ?_
        refine r_iconst (pc := 148) C (v := (-1)) dX6_stone_148 (by decide) ?_
        refine b410 (pc := 149) C hT hm3 (by omega) dX6_stone_149 ?_
        refine r_aload0 (pc := 150) C dX6_stone_150 ?_
        refine gX6_34 (pc := 151) C hT dX6_stone_151 ?_
        refine r_aload0 (pc := 154) C dX6_stone_154 ?_
        refine gX6_111 (pc := 155) C hT dX6_stone_155 ?_
        refine r_iconst (pc := 158) C (v := (-1)) dX6_stone_158 (by decide) ?_
        refine b411 (pc := 159) C hT hm3 (by omega) dX6_stone_159 ?_
        refine r_aload0 (pc := 160) C dX6_stone_160 ?_
        refine r_dup (pc := 161) C dX6_stone_161 rfl ?_
        refine gX6_111 (pc := 162) C hT dX6_stone_162 ?_
        refine r_iconst (pc := 165) C (v := 1) dX6_stone_165 (by decide) ?_
        refine r_iadd (pc := 166) C dX6_stone_166 ?_
        rw [show (up (up (up (up (up (up (up (τ) 64 nr x1) 65 nr x2) 66 nr x3) 67 nr x4) 68 nr x5) 70 nr (-1)) 71 nr (-1)) 60 3 + 1 = nI (nr + 1) by rw [show (up (up (up (up (up (up (up (τ) 64 nr x1) 65 nr x2) 66 nr x3) 67 nr x4) 68 nr x5) 70 nr (-1)) 71 nr (-1)) 60 3 = τ 60 3 from rfl, hm3]; exact nI_1 nr]
        refine pX6_111 (pc := 167) C hT dX6_stone_167 ?_
        refine r_aload0 (pc := 170) C dX6_stone_170 ?_
        refine gX6_111 (pc := 171) C hT dX6_stone_171 ?_
        refine r_iconst (pc := 174) C (v := 1) dX6_stone_174 (by decide) ?_
        refine r_isub (pc := 175) C dX6_stone_175 ?_
        exact r_iret C rfl dX6_stone_176 (by first | exact ⟨fun q => absurd q hno, fun _ => ⟨rfl, rfl⟩⟩ | exact ⟨fun _ => ⟨by rw [up_self]; exact pk_sub (b := 1) (Nat.le_add_left 1 nr), rfl⟩, fun q => absurd rfl q⟩) (by decide) (by decide)
      · have hno : ¬ (cd3 (0 ≤ x1 ∧ x1 < nI np) ((12 ≤ x2 ∧ x2 ≤ 9999) ∧ (0 ≤ x3 ∧ x3 ≤ 9) ∧ (0 ≤ x4 ∧ x4 ≤ 9) ∧ (0 ≤ x5 ∧ x5 ≤ 4095)) (σ 60 3 < 40)) = 0 := cd3_f (by assumption)
        refine r_iconst (pc := 86) C (v := 0) dX6_stone_86 (by decide) ?_
        exact r_iret C rfl dX6_stone_87 (by first | exact ⟨fun q => absurd q hno, fun _ => ⟨rfl, rfl⟩⟩ | exact ⟨fun _ => ⟨by rw [up_self]; exact pk_sub (b := 1) (Nat.le_add_left 1 nr), rfl⟩, fun q => absurd rfl q⟩) (by decide) (by decide)
  refine r_iload2 (pc := 0) C dX6_stone_0 ?_
  refine r_bipush (pc := 1) C (v := 12) dX6_stone_1 (by decide) ?_
  refine r_sipush (pc := 3) C (v := 9999) dX6_stone_3 (by decide) ?_
  refine kX6_114 (pc := 6) C (c_X6_in l D _ _ _ _) dX6_stone_6 (Nat.le_of_ble_eq_true rfl) (by decide) ?_
  rintro _ _ ⟨rfl, rfl⟩
  refine r_if_eq_b (pc := 9) C (tgt := 49) dX6_stone_9 (by decide) (fun c_9 => ?_) (fun c_9 => ?_)
  · refine r_iconst (pc := 49) C (v := 0) dX6_stone_49 (by decide) ?_
    first
    | exact J _ (bI_t (And.intro c_9 (And.intro c_19 (And.intro c_30 c_42)))).symm
    | exact J _ (bI_f (fun h => c_9 h.1)).symm
    | exact J _ (bI_f (fun h => c_19 h.2.1)).symm
    | exact J _ (bI_f (fun h => c_30 h.2.2.1)).symm
    | exact J _ (bI_f (fun h => c_42 h.2.2.2)).symm
  · refine r_iload3 (pc := 12) C dX6_stone_12 ?_
    refine r_iconst (pc := 13) C (v := 0) dX6_stone_13 (by decide) ?_
    refine r_bipush (pc := 14) C (v := 9) dX6_stone_14 (by decide) ?_
    refine kX6_114 (pc := 16) C (c_X6_in l D _ _ _ _) dX6_stone_16 (Nat.le_of_ble_eq_true rfl) (by decide) ?_
    rintro _ _ ⟨rfl, rfl⟩
    refine r_if_eq_b (pc := 19) C (tgt := 49) dX6_stone_19 (by decide) (fun c_19 => ?_) (fun c_19 => ?_)
    · refine r_iconst (pc := 49) C (v := 0) dX6_stone_49 (by decide) ?_
      first
      | exact J _ (bI_t (And.intro c_9 (And.intro c_19 (And.intro c_30 c_42)))).symm
      | exact J _ (bI_f (fun h => c_9 h.1)).symm
      | exact J _ (bI_f (fun h => c_19 h.2.1)).symm
      | exact J _ (bI_f (fun h => c_30 h.2.2.1)).symm
      | exact J _ (bI_f (fun h => c_42 h.2.2.2)).symm
    · refine r_iload4 (pc := 22) C dX6_stone_22 ?_
      refine r_iconst (pc := 24) C (v := 0) dX6_stone_24 (by decide) ?_
      refine r_bipush (pc := 25) C (v := 9) dX6_stone_25 (by decide) ?_
      refine kX6_114 (pc := 27) C (c_X6_in l D _ _ _ _) dX6_stone_27 (Nat.le_of_ble_eq_true rfl) (by decide) ?_
      rintro _ _ ⟨rfl, rfl⟩
      refine r_if_eq_b (pc := 30) C (tgt := 49) dX6_stone_30 (by decide) (fun c_30 => ?_) (fun c_30 => ?_)
      · refine r_iconst (pc := 49) C (v := 0) dX6_stone_49 (by decide) ?_
        first
        | exact J _ (bI_t (And.intro c_9 (And.intro c_19 (And.intro c_30 c_42)))).symm
        | exact J _ (bI_f (fun h => c_9 h.1)).symm
        | exact J _ (bI_f (fun h => c_19 h.2.1)).symm
        | exact J _ (bI_f (fun h => c_30 h.2.2.1)).symm
        | exact J _ (bI_f (fun h => c_42 h.2.2.2)).symm
      · refine r_iload5 (pc := 33) C dX6_stone_33 ?_
        refine r_iconst (pc := 35) C (v := 0) dX6_stone_35 (by decide) ?_
        refine r_sipush (pc := 36) C (v := 4095) dX6_stone_36 (by decide) ?_
        refine kX6_114 (pc := 39) C (c_X6_in l D _ _ _ _) dX6_stone_39 (Nat.le_of_ble_eq_true rfl) (by decide) ?_
        rintro _ _ ⟨rfl, rfl⟩
        refine r_if_eq_b (pc := 42) C (tgt := 49) dX6_stone_42 (by decide) (fun c_42 => ?_) (fun c_42 => ?_)
        · refine r_iconst (pc := 49) C (v := 0) dX6_stone_49 (by decide) ?_
          first
          | exact J _ (bI_t (And.intro c_9 (And.intro c_19 (And.intro c_30 c_42)))).symm
          | exact J _ (bI_f (fun h => c_9 h.1)).symm
          | exact J _ (bI_f (fun h => c_19 h.2.1)).symm
          | exact J _ (bI_f (fun h => c_30 h.2.2.1)).symm
          | exact J _ (bI_f (fun h => c_42 h.2.2.2)).symm
        · refine r_iconst (pc := 45) C (v := 1) dX6_stone_45 (by decide) ?_
          refine r_goto (pc := 46) C (tgt := 50) dX6_stone_46 (by decide) ?_
          first
          | exact J _ (bI_t (And.intro c_9 (And.intro c_19 (And.intro c_30 c_42)))).symm
          | exact J _ (bI_f (fun h => c_9 h.1)).symm
          | exact J _ (bI_f (fun h => c_19 h.2.1)).symm
          | exact J _ (bI_f (fun h => c_30 h.2.2.1)).symm
          | exact J _ (bI_f (fun h => c_42 h.2.2.2)).symm


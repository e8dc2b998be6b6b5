set_option maxRecDepth 100000 in
set_option maxHeartbeats 400000 in
theorem c_X6_take (l : Launch) (D : Gt) (T : List Nat) (ad : Nat → Nat) (σ : Mm) {nr ng : Nat} (hT : TG nr ng T) {np nb : Nat} (hM : ML nr ng np nb σ) (x t : Int32) : KI D l yX6_take (uws yX6_take cX6_take 5 (some .int)) (RM 7 0 0) [.ref (ad 400), .int x, .int t] (T, ad, cO D ad σ) (fun r S1 => ((cd2 (0 ≤ x ∧ x < 5) (¬ σ 81 x.toNatClampNeg = -1)) = 0 → r = chg ((up σ 60 0 0) 82 x.toNatClampNeg) (iF (t = 0) (-10) 5) ∧ S1 = (T, ad, cO D ad (up (up (up (tkM (up σ 60 0 0) ((up σ 60 0 0) 81 x.toNatClampNeg) x t nr) 80 ((up σ 60 0 0) 81 x.toNatClampNeg).toNatClampNeg 1) 81 x.toNatClampNeg (-1)) 82 x.toNatClampNeg (chg ((up σ 60 0 0) 82 x.toNatClampNeg) (iF (t = 0) (-10) 5))))) ∧ (¬ (cd2 (0 ≤ x ∧ x < 5) (¬ σ 81 x.toNatClampNeg = -1)) = 0 → r = 0 ∧ S1 = (T, ad, cO D ad (up σ 60 0 (cd2 (0 ≤ x ∧ x < 5) (¬ σ 81 x.toNatClampNeg = -1)))))) (nX) 0 0 := by
  refine KI_of (own := RX6) (L0 := [some (.ref (ad 400)), some (.int x), some (.int t), none, none]) (by decide +kernel) rfl (catc rfl (catc rfl (catc rfl cat0))) (Nat.le_of_ble_eq_true rfl) rfl ?_
  intro p e s m args below meth c A hnm C
  have hS := hM
  obtain ⟨hm1, hm3, hm26, hm18, hnp, hnr, hng, hnb5, hb, hsc, hlc, hpa, hro, hof, hte⟩ := hM
  by_cases h_x : 0 ≤ x ∧ x < 5
  · obtain ⟨j, hj, rfl⟩ := ix_of (N := 5) (by omega) h_x
    rw [nI_clamp (by omega)]
    refine r_iload1 (pc := 0) C dX6_take_0 ?_
    refine kX6_174 (pc := 1) C (c_X6_isBuyer l D _ _) dX6_take_1 (Nat.le_of_ble_eq_true rfl) (by decide) ?_
    rintro _ _ ⟨rfl, rfl⟩
    refine r_istore3 (pc := 4) C dX6_take_4 ?_
    refine r_aload0 (pc := 5) C dX6_take_5 ?_
    refine r_iload3 (pc := 6) C dX6_take_6 ?_
    refine r_iload3 (pc := 7) C dX6_take_7 ?_
    refine r_if_eq_b (pc := 8) C (tgt := 25) dX6_take_8 (by decide) (fun c_8 => ?_) (fun c_8 => ?_)
    · refine r_iconst (pc := 25) C (v := 0) dX6_take_25 (by decide) ?_
      refine kX6_124 (pc := 26) C (ask2 l D _ _ _ hT (0 ≤ (nI j) ∧ (nI j) < 5) (¬ σ 81 j = -1) (rfl) (fun hP0 => by first | exact absurd hP0 c_8 | exact (bI_f (fun h => h c_18)).symm | exact (bI_t c_18).symm)) (hT.f (by decide)) rfl dX6_take_26 (Nat.le_of_ble_eq_true rfl) (by decide) ?_
      rintro _ _ ⟨rfl, rfl⟩
      refine r_if_ne_b (pc := 29) C (tgt := 34) dX6_take_29 (by decide) (fun c_29 => ?_) (fun c_29 => ?_)
      · have hok : (cd2 (0 ≤ (nI j) ∧ (nI j) < 5) (¬ σ 81 j = -1)) = 0 := cd2_t c_29
        rw [hok]
        obtain ⟨τ, hτ⟩ : ∃ τ, up σ 60 0 0 = τ := ⟨_, rfl⟩
        rw [hτ]
        obtain ⟨hm1, hm3, hm26, hm18, hnp, hnr, hng, hnb5, hb, hsc, hlc, hpa, hro, hof, hte⟩ := (hτ ▸ ML_up 0 hS : ML nr ng np nb τ)
        obtain ⟨hP, hQ⟩ := c_29
        obtain ⟨a, ha5, hta⟩ := (hof j hj).resolve_left (by rw [← hτ]; exact hQ)
        rw [hta, show (nI a).toNatClampNeg = a from nI_clamp (by omega)]
        refine r_iconst (pc := 34) C (v := 0) dX6_take_34 (by decide) ?_
        refine r_istore4 (pc := 35) C dX6_take_35 ?_
        have loop : ∀ (z k : Nat), k ≤ nr → nr < k + z → V D A 5 (T, ad, cO D ad (tkM τ (nI a) (nI j) t k)) p l e (RM 7 0 0) s m args below meth c 0 0 (vx_MQ below (va_Qi (fun r S1 => ((0 : Int32) = 0 → r = chg (τ 82 j) (iF (t = 0) (-10) 5) ∧ S1 = (T, ad, cO D ad (up (up (up (tkM τ (nI a) (nI j) t nr) 80 a 1) 81 j (-1)) 82 j (chg (τ 82 j) (iF (t = 0) (-10) 5))))) ∧ (¬ (0 : Int32) = 0 → r = 0 ∧ S1 = (T, ad, cO D ad (τ)))) (PoB D A) A) (XCs D (T, ad, cO D ad σ) A (nX)) args s 0 0 A) 37 [some (.ref (ad 400)), some (.int (nI j)), some (.int t), some (.int (bI (0 ≤ (nI j) ∧ (nI j) < 5))), some (.int (nI k))] [] := by
          intro z
          induction z with
          | zero => intro k h1 h2; omega
          | succ z ih =>
            intro k h1 h2
            have hk : nI k + 1 = nI (k + 1) := nI_1 k
            refine r_iload4 (pc := 37) C dX6_take_37 ?_
            refine r_aload0 (pc := 39) C dX6_take_39 ?_
            refine gX6_111 (pc := 40) C hT dX6_take_40 ?_
            rw [tkM_r τ _ _ _ (r := 60) (by decide) (by decide) (by decide) k, hm3]
            refine r_icmp_geN (pc := 43) C (tgt := 119) dX6_take_43 (by decide) (by omega) (by omega) (fun c_43 => ?_) (fun c_43 => ?_)
            · have hkn : k = nr := by omega
              rw [hkn]
              obtain ⟨ρ, hρ⟩ : ∃ ρ, tkM τ (nI a) (nI j) t nr = ρ := ⟨_, rfl⟩
              rw [hρ]
              have hr81 : ρ 81 = τ 81 := by rw [← hρ]; exact tkM_r τ _ _ _ (by decide) (by decide) (by decide) nr
              have hr82 : ρ 82 = τ 82 := by rw [← hρ]; exact tkM_r τ _ _ _ (by decide) (by decide) (by decide) nr
              refine r_aload0 (pc := 119) C dX6_take_119 ?_
              refine gX6_58 (pc := 120) C hT dX6_take_120 ?_
              refine r_aload0 (pc := 123) C dX6_take_123 ?_
              refine gX6_62 (pc := 124) C hT dX6_take_124 ?_
              refine r_iload1 (pc := 127) C dX6_take_127 ?_
              refine a421 (pc := 128) C hT rfl (by omega) dX6_take_128 ?_
              rw [hr81, hta]
              refine r_iconst (pc := 129) C (v := 1) dX6_take_129 (by decide) ?_
              refine b420 (pc := 130) C hT (k := a) (Or.inr rfl) rfl (by omega) dX6_take_130 ?_
              refine r_aload0 (pc := 131) C dX6_take_131 ?_
              refine gX6_62 (pc := 132) C hT dX6_take_132 ?_
              refine r_iload1 (pc := 135) C dX6_take_135 ?_
              refine r_iconst (pc := 136) C (v := (-1)) dX6_take_136 (by decide) ?_
              refine b421 (pc := 137) C hT rfl (by omega) dX6_take_137 ?_
              refine r_aload0 (pc := 138) C dX6_take_138 ?_
              refine gX6_65 (pc := 139) C hT dX6_take_139 ?_
              refine r_iload1 (pc := 142) C dX6_take_142 ?_
              refine r_aload0 (pc := 143) C dX6_take_143 ?_
              refine gX6_65 (pc := 144) C hT dX6_take_144 ?_
              refine r_iload1 (pc := 147) C dX6_take_147 ?_
              refine a422 (pc := 148) C hT rfl (by omega) dX6_take_148 ?_
              rw [show (up (up ρ 80 a 1) 81 j (-1)) 82 j = ρ 82 j from rfl, hr82]
              refine r_iload2 (pc := 149) C dX6_take_149 ?_
              refine r_if_eq (pc := 150) C (tgt := 157) dX6_take_150 (by decide) (fun c_150 => ?_) (fun c_150 => ?_)
              · refine r_bipush (pc := 157) C (v := (-10)) dX6_take_157 (by decide) ?_
                refine r_iadd (pc := 159) C dX6_take_159 ?_
                refine r_bipush (pc := 160) C (v := 100) dX6_take_160 (by decide) ?_
                refine kX6_135 (pc := 162) C (c_X6_within l D _ _ _ (by decide)) dX6_take_162 (Nat.le_of_ble_eq_true rfl) (by decide) ?_
                rintro _ _ ⟨hr9, hs9⟩
                rw [hr9, hs9]
                refine b422 (pc := 165) C hT rfl (by omega) dX6_take_165 ?_
                refine r_aload0 (pc := 166) C dX6_take_166 ?_
                refine gX6_65 (pc := 167) C hT dX6_take_167 ?_
                refine r_iload1 (pc := 170) C dX6_take_170 ?_
                refine a422 (pc := 171) C hT rfl (by omega) dX6_take_171 ?_
                exact r_iret C rfl dX6_take_172 (⟨fun _ => ⟨by rw [up_self]; exact congrArg (chg (τ 82 j)) (by first | exact (iF_t c_150).symm | exact (iF_f c_150).symm), by first | rw [iF_t c_150]; rfl | rw [iF_f c_150]; rfl⟩, fun q => absurd rfl q⟩) (by decide) (by decide)
              · refine r_iconst (pc := 153) C (v := 5) dX6_take_153 (by decide) ?_
                refine r_goto (pc := 154) C (tgt := 159) dX6_take_154 (by decide) ?_
                refine r_iadd (pc := 159) C dX6_take_159 ?_
                refine r_bipush (pc := 160) C (v := 100) dX6_take_160 (by decide) ?_
                refine kX6_135 (pc := 162) C (c_X6_within l D _ _ _ (by decide)) dX6_take_162 (Nat.le_of_ble_eq_true rfl) (by decide) ?_
                rintro _ _ ⟨hr9, hs9⟩
                rw [hr9, hs9]
                refine b422 (pc := 165) C hT rfl (by omega) dX6_take_165 ?_
                refine r_aload0 (pc := 166) C dX6_take_166 ?_
                refine gX6_65 (pc := 167) C hT dX6_take_167 ?_
                refine r_iload1 (pc := 170) C dX6_take_170 ?_
                refine a422 (pc := 171) C hT rfl (by omega) dX6_take_171 ?_
                exact r_iret C rfl dX6_take_172 (⟨fun _ => ⟨by rw [up_self]; exact congrArg (chg (τ 82 j)) (by first | exact (iF_t c_150).symm | exact (iF_f c_150).symm), by first | rw [iF_t c_150]; rfl | rw [iF_f c_150]; rfl⟩, fun q => absurd rfl q⟩) (by decide) (by decide)
            · refine r_aload0 (pc := 46) C dX6_take_46 ?_
              refine gX6_28 (pc := 47) C hT dX6_take_47 ?_
              refine r_iload4 (pc := 50) C dX6_take_50 ?_
              refine a409 (pc := 52) C hT rfl (by omega) dX6_take_52 ?_
              refine r_iconst (pc := 53) C (v := 1) dX6_take_53 (by decide) ?_
              refine r_icmp_ne (pc := 54) C (tgt := 113) dX6_take_54 (by decide) (fun c_54 => ?_) (fun c_54 => ?_)
              · refine r_iinc4 (pc := 113) C dX6_take_113 hk ?_
                refine r_goto (pc := 116) C (tgt := 37) dX6_take_116 (by decide) ?_
                first
                | exact absurd c_80 c_96
                | exact absurd c_96 c_80
                | (have e1 : tkM τ (nI a) (nI j) t (k + 1) = up (up (up (tkM τ (nI a) (nI j) t k) 69 k 0) 70 k (-1)) 71 k (-1) := (iF_t (And.intro c_54 c_70)).trans (by rw [iF_t c_80, iF_t c_80])
                   have h3 := ih (k + 1); rw [e1] at h3; exact h3 (by omega) (by omega))
                | (have e1 : tkM τ (nI a) (nI j) t (k + 1) = up (up (up (tkM τ (nI a) (nI j) t k) 69 k 2) 70 k (nI j)) 71 k (-1) := (iF_t (And.intro c_54 c_70)).trans (by rw [iF_f c_80, iF_f c_80])
                   have h3 := ih (k + 1); rw [e1] at h3; exact h3 (by omega) (by omega))
                | (have e1 : tkM τ (nI a) (nI j) t (k + 1) = (tkM τ (nI a) (nI j) t k) := iF_f (fun h => c_70 h.2)
                   have h3 := ih (k + 1); rw [e1] at h3; exact h3 (by omega) (by omega))
                | (have e1 : tkM τ (nI a) (nI j) t (k + 1) = (tkM τ (nI a) (nI j) t k) := iF_f (fun h => c_54 h.1)
                   have h3 := ih (k + 1); rw [e1] at h3; exact h3 (by omega) (by omega))
              · refine r_aload0 (pc := 57) C dX6_take_57 ?_
                refine gX6_34 (pc := 58) C hT dX6_take_58 ?_
                refine r_iload4 (pc := 61) C dX6_take_61 ?_
                refine a411 (pc := 63) C hT rfl (by omega) dX6_take_63 ?_
                refine r_aload0 (pc := 64) C dX6_take_64 ?_
                refine gX6_62 (pc := 65) C hT dX6_take_65 ?_
                refine r_iload1 (pc := 68) C dX6_take_68 ?_
                refine a421 (pc := 69) C hT rfl (by omega) dX6_take_69 ?_
                rw [tkM_r τ _ _ _ (r := 81) (by decide) (by decide) (by decide) k, hta]
                refine r_icmp_ne (pc := 70) C (tgt := 113) dX6_take_70 (by decide) (fun c_70 => ?_) (fun c_70 => ?_)
                · refine r_iinc4 (pc := 113) C dX6_take_113 hk ?_
                  refine r_goto (pc := 116) C (tgt := 37) dX6_take_116 (by decide) ?_
                  first
                  | exact absurd c_80 c_96
                  | exact absurd c_96 c_80
                  | (have e1 : tkM τ (nI a) (nI j) t (k + 1) = up (up (up (tkM τ (nI a) (nI j) t k) 69 k 0) 70 k (-1)) 71 k (-1) := (iF_t (And.intro c_54 c_70)).trans (by rw [iF_t c_80, iF_t c_80])
                     have h3 := ih (k + 1); rw [e1] at h3; exact h3 (by omega) (by omega))
                  | (have e1 : tkM τ (nI a) (nI j) t (k + 1) = up (up (up (tkM τ (nI a) (nI j) t k) 69 k 2) 70 k (nI j)) 71 k (-1) := (iF_t (And.intro c_54 c_70)).trans (by rw [iF_f c_80, iF_f c_80])
                     have h3 := ih (k + 1); rw [e1] at h3; exact h3 (by omega) (by omega))
                  | (have e1 : tkM τ (nI a) (nI j) t (k + 1) = (tkM τ (nI a) (nI j) t k) := iF_f (fun h => c_70 h.2)
                     have h3 := ih (k + 1); rw [e1] at h3; exact h3 (by omega) (by omega))
                  | (have e1 : tkM τ (nI a) (nI j) t (k + 1) = (tkM τ (nI a) (nI j) t k) := iF_f (fun h => c_54 h.1)
                     have h3 := ih (k + 1); rw [e1] at h3; exact h3 (by omega) (by omega))
                · refine r_aload0 (pc := 73) C dX6_take_73 ?_
                  refine gX6_28 (pc := 74) C hT dX6_take_74 ?_
                  refine r_iload4 (pc := 77) C dX6_take_77 ?_
                  refine r_iload2 (pc := 79) C dX6_take_79 ?_
                  refine r_if_eq (pc := 80) C (tgt := 87) dX6_take_80 (by decide) (fun c_80 => ?_) (fun c_80 => ?_)
                  · refine r_iconst (pc := 87) C (v := 0) dX6_take_87 (by decide) ?_
                    refine b409 (pc := 88) C hT rfl (by omega) dX6_take_88 ?_
                    refine r_aload0 (pc := 89) C dX6_take_89 ?_
                    refine gX6_31 (pc := 90) C hT dX6_take_90 ?_
                    refine r_iload4 (pc := 93) C dX6_take_93 ?_
                    refine r_iload2 (pc := 95) C dX6_take_95 ?_
                    refine r_if_eq (pc := 96) C (tgt := 103) dX6_take_96 (by decide) (fun c_96 => ?_) (fun c_96 => ?_)
                    · refine r_iconst (pc := 103) C (v := (-1)) dX6_take_103 (by decide) ?_
                      refine b410 (pc := 104) C hT rfl (by omega) dX6_take_104 ?_
                      refine r_aload0 (pc := 105) C dX6_take_105 ?_
                      refine gX6_34 (pc := 106) C hT dX6_take_106 ?_
                      refine r_iload4 (pc := 109) C dX6_take_109 ?_
                      refine r_iconst (pc := 111) C (v := (-1)) dX6_take_111 (by decide) ?_
                      refine b411 (pc := 112) C hT rfl (by omega) dX6_take_112 ?_
                      refine r_iinc4 (pc := 113) C dX6_take_113 hk ?_
                      refine r_goto (pc := 116) C (tgt := 37) dX6_take_116 (by decide) ?_
                      first
                      | exact absurd c_80 c_96
                      | exact absurd c_96 c_80
                      | (have e1 : tkM τ (nI a) (nI j) t (k + 1) = up (up (up (tkM τ (nI a) (nI j) t k) 69 k 0) 70 k (-1)) 71 k (-1) := (iF_t (And.intro c_54 c_70)).trans (by rw [iF_t c_80, iF_t c_80])
                         have h3 := ih (k + 1); rw [e1] at h3; exact h3 (by omega) (by omega))
                      | (have e1 : tkM τ (nI a) (nI j) t (k + 1) = up (up (up (tkM τ (nI a) (nI j) t k) 69 k 2) 70 k (nI j)) 71 k (-1) := (iF_t (And.intro c_54 c_70)).trans (by rw [iF_f c_80, iF_f c_80])
                         have h3 := ih (k + 1); rw [e1] at h3; exact h3 (by omega) (by omega))
                      | (have e1 : tkM τ (nI a) (nI j) t (k + 1) = (tkM τ (nI a) (nI j) t k) := iF_f (fun h => c_70 h.2)
                         have h3 := ih (k + 1); rw [e1] at h3; exact h3 (by omega) (by omega))
                      | (have e1 : tkM τ (nI a) (nI j) t (k + 1) = (tkM τ (nI a) (nI j) t k) := iF_f (fun h => c_54 h.1)
                         have h3 := ih (k + 1); rw [e1] at h3; exact h3 (by omega) (by omega))
                    · refine r_iload1 (pc := 99) C dX6_take_99 ?_
                      refine r_goto (pc := 100) C (tgt := 104) dX6_take_100 (by decide) ?_
                      refine b410 (pc := 104) C hT rfl (by omega) dX6_take_104 ?_
                      refine r_aload0 (pc := 105) C dX6_take_105 ?_
                      refine gX6_34 (pc := 106) C hT dX6_take_106 ?_
                      refine r_iload4 (pc := 109) C dX6_take_109 ?_
                      refine r_iconst (pc := 111) C (v := (-1)) dX6_take_111 (by decide) ?_
                      refine b411 (pc := 112) C hT rfl (by omega) dX6_take_112 ?_
                      refine r_iinc4 (pc := 113) C dX6_take_113 hk ?_
                      refine r_goto (pc := 116) C (tgt := 37) dX6_take_116 (by decide) ?_
                      first
                      | exact absurd c_80 c_96
                      | exact absurd c_96 c_80
                      | (have e1 : tkM τ (nI a) (nI j) t (k + 1) = up (up (up (tkM τ (nI a) (nI j) t k) 69 k 0) 70 k (-1)) 71 k (-1) := (iF_t (And.intro c_54 c_70)).trans (by rw [iF_t c_80, iF_t c_80])
                         have h3 := ih (k + 1); rw [e1] at h3; exact h3 (by omega) (by omega))
                      | (have e1 : tkM τ (nI a) (nI j) t (k + 1) = up (up (up (tkM τ (nI a) (nI j) t k) 69 k 2) 70 k (nI j)) 71 k (-1) := (iF_t (And.intro c_54 c_70)).trans (by rw [iF_f c_80, iF_f c_80])
                         have h3 := ih (k + 1); rw [e1] at h3; exact h3 (by omega) (by omega))
                      | (have e1 : tkM τ (nI a) (nI j) t (k + 1) = (tkM τ (nI a) (nI j) t k) := iF_f (fun h => c_70 h.2)
                         have h3 := ih (k + 1); rw [e1] at h3; exact h3 (by omega) (by omega))
                      | (have e1 : tkM τ (nI a) (nI j) t (k + 1) = (tkM τ (nI a) (nI j) t k) := iF_f (fun h => c_54 h.1)
                         have h3 := ih (k + 1); rw [e1] at h3; exact h3 (by omega) (by omega))
                  · refine r_iconst (pc := 83) C (v := 2) dX6_take_83 (by decide) ?_
                    refine r_goto (pc := 84) C (tgt := 88) dX6_take_84 (by decide) ?_
                    refine b409 (pc := 88) C hT rfl (by omega) dX6_take_88 ?_
                    refine r_aload0 (pc := 89) C dX6_take_89 ?_
                    refine gX6_31 (pc := 90) C hT dX6_take_90 ?_
                    refine r_iload4 (pc := 93) C dX6_take_93 ?_
                    refine r_iload2 (pc := 95) C dX6_take_95 ?_
                    refine r_if_eq (pc := 96) C (tgt := 103) dX6_take_96 (by decide) (fun c_96 => ?_) (fun c_96 => ?_)
                    · refine r_iconst (pc := 103) C (v := (-1)) dX6_take_103 (by decide) ?_
                      refine b410 (pc := 104) C hT rfl (by omega) dX6_take_104 ?_
                      refine r_aload0 (pc := 105) C dX6_take_105 ?_
                      refine gX6_34 (pc := 106) C hT dX6_take_106 ?_
                      refine r_iload4 (pc := 109) C dX6_take_109 ?_
                      refine r_iconst (pc := 111) C (v := (-1)) dX6_take_111 (by decide) ?_
                      refine b411 (pc := 112) C hT rfl (by omega) dX6_take_112 ?_
                      refine r_iinc4 (pc := 113) C dX6_take_113 hk ?_
                      refine r_goto (pc := 116) C (tgt := 37) dX6_take_116 (by decide) ?_
                      first
                      | exact absurd c_80 c_96
                      | exact absurd c_96 c_80
                      | (have e1 : tkM τ (nI a) (nI j) t (k + 1) = up (up (up (tkM τ (nI a) (nI j) t k) 69 k 0) 70 k (-1)) 71 k (-1) := (iF_t (And.intro c_54 c_70)).trans (by rw [iF_t c_80, iF_t c_80])
                         have h3 := ih (k + 1); rw [e1] at h3; exact h3 (by omega) (by omega))
                      | (have e1 : tkM τ (nI a) (nI j) t (k + 1) = up (up (up (tkM τ (nI a) (nI j) t k) 69 k 2) 70 k (nI j)) 71 k (-1) := (iF_t (And.intro c_54 c_70)).trans (by rw [iF_f c_80, iF_f c_80])
                         have h3 := ih (k + 1); rw [e1] at h3; exact h3 (by omega) (by omega))
                      | (have e1 : tkM τ (nI a) (nI j) t (k + 1) = (tkM τ (nI a) (nI j) t k) := iF_f (fun h => c_70 h.2)
                         have h3 := ih (k + 1); rw [e1] at h3; exact h3 (by omega) (by omega))
                      | (have e1 : tkM τ (nI a) (nI j) t (k + 1) = (tkM τ (nI a) (nI j) t k) := iF_f (fun h => c_54 h.1)
                         have h3 := ih (k + 1); rw [e1] at h3; exact h3 (by omega) (by omega))
                    · refine r_iload1 (pc := 99) C dX6_take_99 ?_
                      refine r_goto (pc := 100) C (tgt := 104) dX6_take_100 (by decide) ?_
                      refine b410 (pc := 104) C hT rfl (by omega) dX6_take_104 ?_
                      refine r_aload0 (pc := 105) C dX6_take_105 ?_
                      refine gX6_34 (pc := 106) C hT dX6_take_106 ?_
                      refine r_iload4 (pc := 109) C dX6_take_109 ?_
                      refine r_iconst (pc := 111) C (v := (-1)) dX6_take_111 (by decide) ?_
                      refine b411 (pc := 112) C hT rfl (by omega) dX6_take_112 ?_
                      refine r_iinc4 (pc := 113) C dX6_take_113 hk ?_
                      refine r_goto (pc := 116) C (tgt := 37) dX6_take_116 (by decide) ?_
                      first
                      | exact absurd c_80 c_96
                      | exact absurd c_96 c_80
                      | (have e1 : tkM τ (nI a) (nI j) t (k + 1) = up (up (up (tkM τ (nI a) (nI j) t k) 69 k 0) 70 k (-1)) 71 k (-1) := (iF_t (And.intro c_54 c_70)).trans (by rw [iF_t c_80, iF_t c_80])
                         have h3 := ih (k + 1); rw [e1] at h3; exact h3 (by omega) (by omega))
                      | (have e1 : tkM τ (nI a) (nI j) t (k + 1) = up (up (up (tkM τ (nI a) (nI j) t k) 69 k 2) 70 k (nI j)) 71 k (-1) := (iF_t (And.intro c_54 c_70)).trans (by rw [iF_f c_80, iF_f c_80])
                         have h3 := ih (k + 1); rw [e1] at h3; exact h3 (by omega) (by omega))
                      | (have e1 : tkM τ (nI a) (nI j) t (k + 1) = (tkM τ (nI a) (nI j) t k) := iF_f (fun h => c_70 h.2)
                         have h3 := ih (k + 1); rw [e1] at h3; exact h3 (by omega) (by omega))
                      | (have e1 : tkM τ (nI a) (nI j) t (k + 1) = (tkM τ (nI a) (nI j) t k) := iF_f (fun h => c_54 h.1)
                         have h3 := ih (k + 1); rw [e1] at h3; exact h3 (by omega) (by omega))
        exact loop (nr + 1) 0 (by omega) (by omega)
      · have hno : ¬ (cd2 (0 ≤ (nI j) ∧ (nI j) < 5) (¬ σ 81 j = -1)) = 0 := cd2_f (by assumption)
        refine r_iconst (pc := 32) C (v := 0) dX6_take_32 (by decide) ?_
        exact r_iret C rfl dX6_take_33 (by first | exact ⟨fun q => absurd q hno, fun _ => ⟨rfl, rfl⟩⟩ | exact ⟨fun _ => ⟨rfl, rfl⟩, fun q => absurd rfl q⟩) (by decide) (by decide)
    · refine r_aload0 (pc := 11) C dX6_take_11 ?_
      refine gX6_62 (pc := 12) C hT dX6_take_12 ?_
      refine r_iload1 (pc := 15) C dX6_take_15 ?_
      refine a421 (pc := 16) C hT rfl (by omega) dX6_take_16 ?_
      refine r_iconst (pc := 17) C (v := (-1)) dX6_take_17 (by decide) ?_
      refine r_icmp_eq (pc := 18) C (tgt := 25) dX6_take_18 (by decide) (fun c_18 => ?_) (fun c_18 => ?_)
      · refine r_iconst (pc := 25) C (v := 0) dX6_take_25 (by decide) ?_
        refine kX6_124 (pc := 26) C (ask2 l D _ _ _ hT (0 ≤ (nI j) ∧ (nI j) < 5) (¬ σ 81 j = -1) (rfl) (fun hP0 => by first | exact absurd hP0 c_8 | exact (bI_f (fun h => h c_18)).symm | exact (bI_t c_18).symm)) (hT.f (by decide)) rfl dX6_take_26 (Nat.le_of_ble_eq_true rfl) (by decide) ?_
        rintro _ _ ⟨rfl, rfl⟩
        refine r_if_ne_b (pc := 29) C (tgt := 34) dX6_take_29 (by decide) (fun c_29 => ?_) (fun c_29 => ?_)
        · have hok : (cd2 (0 ≤ (nI j) ∧ (nI j) < 5) (¬ σ 81 j = -1)) = 0 := cd2_t c_29
          rw [hok]
          obtain ⟨τ, hτ⟩ : ∃ τ, up σ 60 0 0 = τ := ⟨_, rfl⟩
          rw [hτ]
          obtain ⟨hm1, hm3, hm26, hm18, hnp, hnr, hng, hnb5, hb, hsc, hlc, hpa, hro, hof, hte⟩ := (hτ ▸ ML_up 0 hS : ML nr ng np nb τ)
          obtain ⟨hP, hQ⟩ := c_29
          obtain ⟨a, ha5, hta⟩ := (hof j hj).resolve_left (by rw [← hτ]; exact hQ)
          rw [hta, show (nI a).toNatClampNeg = a from nI_clamp (by omega)]
          refine r_iconst (pc := 34) C (v := 0) dX6_take_34 (by decide) ?_
          refine r_istore4 (pc := 35) C dX6_take_35 ?_
          have loop : ∀ (z k : Nat), k ≤ nr → nr < k + z → V D A 5 (T, ad, cO D ad (tkM τ (nI a) (nI j) t k)) p l e (RM 7 0 0) s m args below meth c 0 0 (vx_MQ below (va_Qi (fun r S1 => ((0 : Int32) = 0 → r = chg (τ 82 j) (iF (t = 0) (-10) 5) ∧ S1 = (T, ad, cO D ad (up (up (up (tkM τ (nI a) (nI j) t nr) 80 a 1) 81 j (-1)) 82 j (chg (τ 82 j) (iF (t = 0) (-10) 5))))) ∧ (¬ (0 : Int32) = 0 → r = 0 ∧ S1 = (T, ad, cO D ad (τ)))) (PoB D A) A) (XCs D (T, ad, cO D ad σ) A (nX)) args s 0 0 A) 37 [some (.ref (ad 400)), some (.int (nI j)), some (.int t), some (.int (bI (0 ≤ (nI j) ∧ (nI j) < 5))), some (.int (nI k))] [] := by
            intro z
            induction z with
            | zero => intro k h1 h2; omega
            | succ z ih =>
              intro k h1 h2
              have hk : nI k + 1 = nI (k + 1) := nI_1 k
              refine r_iload4 (pc := 37) C dX6_take_37 ?_
              refine r_aload0 (pc := 39) C dX6_take_39 ?_
              refine gX6_111 (pc := 40) C hT dX6_take_40 ?_
              rw [tkM_r τ _ _ _ (r := 60) (by decide) (by decide) (by decide) k, hm3]
              refine r_icmp_geN (pc := 43) C (tgt := 119) dX6_take_43 (by decide) (by omega) (by omega) (fun c_43 => ?_) (fun c_43 => ?_)
              · have hkn : k = nr := by omega
                rw [hkn]
                obtain ⟨ρ, hρ⟩ : ∃ ρ, tkM τ (nI a) (nI j) t nr = ρ := ⟨_, rfl⟩
                rw [hρ]
                have hr81 : ρ 81 = τ 81 := by rw [← hρ]; exact tkM_r τ _ _ _ (by decide) (by decide) (by decide) nr
                have hr82 : ρ 82 = τ 82 := by rw [← hρ]; exact tkM_r τ _ _ _ (by decide) (by decide) (by decide) nr
                refine r_aload0 (pc := 119) C dX6_take_119 ?_
                refine gX6_58 (pc := 120) C hT dX6_take_120 ?_
                refine r_aload0 (pc := 123) C dX6_take_123 ?_
                refine gX6_62 (pc := 124) C hT dX6_take_124 ?_
                refine r_iload1 (pc := 127) C dX6_take_127 ?_
                refine a421 (pc := 128) C hT rfl (by omega) dX6_take_128 ?_
                rw [hr81, hta]
                refine r_iconst (pc := 129) C (v := 1) dX6_take_129 (by decide) ?_
                refine b420 (pc := 130) C hT (k := a) (Or.inr rfl) rfl (by omega) dX6_take_130 ?_
                refine r_aload0 (pc := 131) C dX6_take_131 ?_
                refine gX6_62 (pc := 132) C hT dX6_take_132 ?_
                refine r_iload1 (pc := 135) C dX6_take_135 ?_
                refine r_iconst (pc := 136) C (v := (-1)) dX6_take_136 (by decide) ?_
                refine b421 (pc := 137) C hT rfl (by omega) dX6_take_137 ?_
                refine r_aload0 (pc := 138) C dX6_take_138 ?_
                refine gX6_65 (pc := 139) C hT dX6_take_139 ?_
                refine r_iload1 (pc := 142) C dX6_take_142 ?_
                refine r_aload0 (pc := 143) C dX6_take_143 ?_
                refine gX6_65 (pc := 144) C hT dX6_take_144 ?_
                refine r_iload1 (pc := 147) C dX6_take_147 ?_
                refine a422 (pc := 148) C hT rfl (by omega) dX6_take_148 ?_
                rw [show (up (up ρ 80 a 1) 81 j (-1)) 82 j = ρ 82 j from rfl, hr82]
                refine r_iload2 (pc := 149) C dX6_take_149 ?_
                refine r_if_eq (pc := 150) C (tgt := 157) dX6_take_150 (by decide) (fun c_150 => ?_) (fun c_150 => ?_)
                · refine r_bipush (pc := 157) C (v := (-10)) dX6_take_157 (by decide) ?_
                  refine r_iadd (pc := 159) C dX6_take_159 ?_
                  refine r_bipush (pc := 160) C (v := 100) dX6_take_160 (by decide) ?_
                  refine kX6_135 (pc := 162) C (c_X6_within l D _ _ _ (by decide)) dX6_take_162 (Nat.le_of_ble_eq_true rfl) (by decide) ?_
                  rintro _ _ ⟨hr9, hs9⟩
                  rw [hr9, hs9]
                  refine b422 (pc := 165) C hT rfl (by omega) dX6_take_165 ?_
                  refine r_aload0 (pc := 166) C dX6_take_166 ?_
                  refine gX6_65 (pc := 167) C hT dX6_take_167 ?_
                  refine r_iload1 (pc := 170) C dX6_take_170 ?_
                  refine a422 (pc := 171) C hT rfl (by omega) dX6_take_171 ?_
                  exact r_iret C rfl dX6_take_172 (⟨fun _ => ⟨by rw [up_self]; exact congrArg (chg (τ 82 j)) (by first | exact (iF_t c_150).symm | exact (iF_f c_150).symm), by first | rw [iF_t c_150]; rfl | rw [iF_f c_150]; rfl⟩, fun q => absurd rfl q⟩) (by decide) (by decide)
                · refine r_iconst (pc := 153) C (v := 5) dX6_take_153 (by decide) ?_
                  refine r_goto (pc := 154) C (tgt := 159) dX6_take_154 (by decide) ?_
                  refine r_iadd (pc := 159) C dX6_take_159 ?_
                  refine r_bipush (pc := 160) C (v := 100) dX6_take_160 (by decide) ?_
                  refine kX6_135 (pc := 162) C (c_X6_within l D _ _ _ (by decide)) dX6_take_162 (Nat.le_of_ble_eq_true rfl) (by decide) ?_
                  rintro _ _ ⟨hr9, hs9⟩
                  rw [hr9, hs9]
                  refine b422 (pc := 165) C hT rfl (by omega) dX6_take_165 ?_
                  refine r_aload0 (pc := 166) C dX6_take_166 ?_
                  refine gX6_65 (pc := 167) C hT dX6_take_167 ?_
                  refine r_iload1 (pc := 170) C dX6_take_170 ?_
                  refine a422 (pc := 171) C hT rfl (by omega) dX6_take_171 ?_
                  exact r_iret C rfl dX6_take_172 (⟨fun _ => ⟨by rw [up_self]; exact congrArg (chg (τ 82 j)) (by first | exact (iF_t c_150).symm | exact (iF_f c_150).symm), by first | rw [iF_t c_150]; rfl | rw [iF_f c_150]; rfl⟩, fun q => absurd rfl q⟩) (by decide) (by decide)
              · refine r_aload0 (pc := 46) C dX6_take_46 ?_
                refine gX6_28 (pc := 47) C hT dX6_take_47 ?_
                refine r_iload4 (pc := 50) C dX6_take_50 ?_
                refine a409 (pc := 52) C hT rfl (by omega) dX6_take_52 ?_
                refine r_iconst (pc := 53) C (v := 1) dX6_take_53 (by decide) ?_
                refine r_icmp_ne (pc := 54) C (tgt := 113) dX6_take_54 (by decide) (fun c_54 => ?_) (fun c_54 => ?_)
                · refine r_iinc4 (pc := 113) C dX6_take_113 hk ?_
                  refine r_goto (pc := 116) C (tgt := 37) dX6_take_116 (by decide) ?_
                  first
                  | exact absurd c_80 c_96
                  | exact absurd c_96 c_80
                  | (have e1 : tkM τ (nI a) (nI j) t (k + 1) = up (up (up (tkM τ (nI a) (nI j) t k) 69 k 0) 70 k (-1)) 71 k (-1) := (iF_t (And.intro c_54 c_70)).trans (by rw [iF_t c_80, iF_t c_80])
                     have h3 := ih (k + 1); rw [e1] at h3; exact h3 (by omega) (by omega))
                  | (have e1 : tkM τ (nI a) (nI j) t (k + 1) = up (up (up (tkM τ (nI a) (nI j) t k) 69 k 2) 70 k (nI j)) 71 k (-1) := (iF_t (And.intro c_54 c_70)).trans (by rw [iF_f c_80, iF_f c_80])
                     have h3 := ih (k + 1); rw [e1] at h3; exact h3 (by omega) (by omega))
                  | (have e1 : tkM τ (nI a) (nI j) t (k + 1) = (tkM τ (nI a) (nI j) t k) := iF_f (fun h => c_70 h.2)
                     have h3 := ih (k + 1); rw [e1] at h3; exact h3 (by omega) (by omega))
                  | (have e1 : tkM τ (nI a) (nI j) t (k + 1) = (tkM τ (nI a) (nI j) t k) := iF_f (fun h => c_54 h.1)
                     have h3 := ih (k + 1); rw [e1] at h3; exact h3 (by omega) (by omega))
                · refine r_aload0 (pc := 57) C dX6_take_57 ?_
                  refine gX6_34 (pc := 58) C hT dX6_take_58 ?_
                  refine r_iload4 (pc := 61) C dX6_take_61 ?_
                  refine a411 (pc := 63) C hT rfl (by omega) dX6_take_63 ?_
                  refine r_aload0 (pc := 64) C dX6_take_64 ?_
                  refine gX6_62 (pc := 65) C hT dX6_take_65 ?_
                  refine r_iload1 (pc := 68) C dX6_take_68 ?_
                  refine a421 (pc := 69) C hT rfl (by omega) dX6_take_69 ?_
                  rw [tkM_r τ _ _ _ (r := 81) (by decide) (by decide) (by decide) k, hta]
                  refine r_icmp_ne (pc := 70) C (tgt := 113) dX6_take_70 (by decide) (fun c_70 => ?_) (fun c_70 => ?_)
                  · refine r_iinc4 (pc := 113) C dX6_take_113 hk ?_
                    refine r_goto (pc := 116) C (tgt := 37) dX6_take_116 (by decide) ?_
                    first
                    | exact absurd c_80 c_96
                    | exact absurd c_96 c_80
                    | (have e1 : tkM τ (nI a) (nI j) t (k + 1) = up (up (up (tkM τ (nI a) (nI j) t k) 69 k 0) 70 k (-1)) 71 k (-1) := (iF_t (And.intro c_54 c_70)).trans (by rw [iF_t c_80, iF_t c_80])
                       have h3 := ih (k + 1); rw [e1] at h3; exact h3 (by omega) (by omega))
                    | (have e1 : tkM τ (nI a) (nI j) t (k + 1) = up (up (up (tkM τ (nI a) (nI j) t k) 69 k 2) 70 k (nI j)) 71 k (-1) := (iF_t (And.intro c_54 c_70)).trans (by rw [iF_f c_80, iF_f c_80])
                       have h3 := ih (k + 1); rw [e1] at h3; exact h3 (by omega) (by omega))
                    | (have e1 : tkM τ (nI a) (nI j) t (k + 1) = (tkM τ (nI a) (nI j) t k) := iF_f (fun h => c_70 h.2)
                       have h3 := ih (k + 1); rw [e1] at h3; exact h3 (by omega) (by omega))
                    | (have e1 : tkM τ (nI a) (nI j) t (k + 1) = (tkM τ (nI a) (nI j) t k) := iF_f (fun h => c_54 h.1)
                       have h3 := ih (k + 1); rw [e1] at h3; exact h3 (by omega) (by omega))
                  · refine r_aload0 (pc := 73) C dX6_take_73 ?_
                    refine gX6_28 (pc := 74) C hT dX6_take_74 ?_
                    refine r_iload4 (pc := 77) C dX6_take_77 ?_
                    refine r_iload2 (pc := 79) C dX6_take_79 ?_
                    refine r_if_eq (pc := 80) C (tgt := 87) dX6_take_80 (by decide) (fun c_80 => ?_) (fun c_80 => ?_)
                    · refine r_iconst (pc := 87) C (v := 0) dX6_take_87 (by decide) ?_
                      refine b409 (pc := 88) C hT rfl (by omega) dX6_take_88 ?_
                      refine r_aload0 (pc := 89) C dX6_take_89 ?_
                      refine gX6_31 (pc := 90) C hT dX6_take_90 ?_
                      refine r_iload4 (pc := 93) C dX6_take_93 ?_
                      refine r_iload2 (pc := 95) C dX6_take_95 ?_
                      refine r_if_eq (pc := 96) C (tgt := 103) dX6_take_96 (by decide) (fun c_96 => ?_) (fun c_96 => ?_)
                      · refine r_iconst (pc := 103) C (v := (-1)) dX6_take_103 (by decide) ?_
                        refine b410 (pc := 104) C hT rfl (by omega) dX6_take_104 ?_
                        refine r_aload0 (pc := 105) C dX6_take_105 ?_
                        refine gX6_34 (pc := 106) C hT dX6_take_106 ?_
                        refine r_iload4 (pc := 109) C dX6_take_109 ?_
                        refine r_iconst (pc := 111) C (v := (-1)) dX6_take_111 (by decide) ?_
                        refine b411 (pc := 112) C hT rfl (by omega) dX6_take_112 ?_
                        refine r_iinc4 (pc := 113) C dX6_take_113 hk ?_
                        refine r_goto (pc := 116) C (tgt := 37) dX6_take_116 (by decide) ?_
                        first
                        | exact absurd c_80 c_96
                        | exact absurd c_96 c_80
                        | (have e1 : tkM τ (nI a) (nI j) t (k + 1) = up (up (up (tkM τ (nI a) (nI j) t k) 69 k 0) 70 k (-1)) 71 k (-1) := (iF_t (And.intro c_54 c_70)).trans (by rw [iF_t c_80, iF_t c_80])
                           have h3 := ih (k + 1); rw [e1] at h3; exact h3 (by omega) (by omega))
                        | (have e1 : tkM τ (nI a) (nI j) t (k + 1) = up (up (up (tkM τ (nI a) (nI j) t k) 69 k 2) 70 k (nI j)) 71 k (-1) := (iF_t (And.intro c_54 c_70)).trans (by rw [iF_f c_80, iF_f c_80])
                           have h3 := ih (k + 1); rw [e1] at h3; exact h3 (by omega) (by omega))
                        | (have e1 : tkM τ (nI a) (nI j) t (k + 1) = (tkM τ (nI a) (nI j) t k) := iF_f (fun h => c_70 h.2)
                           have h3 := ih (k + 1); rw [e1] at h3; exact h3 (by omega) (by omega))
                        | (have e1 : tkM τ (nI a) (nI j) t (k + 1) = (tkM τ (nI a) (nI j) t k) := iF_f (fun h => c_54 h.1)
                           have h3 := ih (k + 1); rw [e1] at h3; exact h3 (by omega) (by omega))
                      · refine r_iload1 (pc := 99) C dX6_take_99 ?_
                        refine r_goto (pc := 100) C (tgt := 104) dX6_take_100 (by decide) ?_
                        refine b410 (pc := 104) C hT rfl (by omega) dX6_take_104 ?_
                        refine r_aload0 (pc := 105) C dX6_take_105 ?_
                        refine gX6_34 (pc := 106) C hT dX6_take_106 ?_
                        refine r_iload4 (pc := 109) C dX6_take_109 ?_
                        refine r_iconst (pc := 111) C (v := (-1)) dX6_take_111 (by decide) ?_
                        refine b411 (pc := 112) C hT rfl (by omega) dX6_take_112 ?_
                        refine r_iinc4 (pc := 113) C dX6_take_113 hk ?_
                        refine r_goto (pc := 116) C (tgt := 37) dX6_take_116 (by decide) ?_
                        first
                        | exact absurd c_80 c_96
                        | exact absurd c_96 c_80
                        | (have e1 : tkM τ (nI a) (nI j) t (k + 1) = up (up (up (tkM τ (nI a) (nI j) t k) 69 k 0) 70 k (-1)) 71 k (-1) := (iF_t (And.intro c_54 c_70)).trans (by rw [iF_t c_80, iF_t c_80])
                           have h3 := ih (k + 1); rw [e1] at h3; exact h3 (by omega) (by omega))
                        | (have e1 : tkM τ (nI a) (nI j) t (k + 1) = up (up (up (tkM τ (nI a) (nI j) t k) 69 k 2) 70 k (nI j)) 71 k (-1) := (iF_t (And.intro c_54 c_70)).trans (by rw [iF_f c_80, iF_f c_80])
                           have h3 := ih (k + 1); rw [e1] at h3; exact h3 (by omega) (by omega))
                        | (have e1 : tkM τ (nI a) (nI j) t (k + 1) = (tkM τ (nI a) (nI j) t k) := iF_f (fun h => c_70 h.2)
                           have h3 := ih (k + 1); rw [e1] at h3; exact h3 (by omega) (by omega))
                        | (have e1 : tkM τ (nI a) (nI j) t (k + 1) = (tkM τ (nI a) (nI j) t k) := iF_f (fun h => c_54 h.1)
                           have h3 := ih (k + 1); rw [e1] at h3; exact h3 (by omega) (by omega))
                    · refine r_iconst (pc := 83) C (v := 2) dX6_take_83 (by decide) ?_
                      refine r_goto (pc := 84) C (tgt := 88) dX6_take_84 (by decide) ?_
                      refine b409 (pc := 88) C hT rfl (by omega) dX6_take_88 ?_
                      refine r_aload0 (pc := 89) C dX6_take_89 ?_
                      refine gX6_31 (pc := 90) C hT dX6_take_90 ?_
                      refine r_iload4 (pc := 93) C dX6_take_93 ?_
                      refine r_iload2 (pc := 95) C dX6_take_95 ?_
                      refine r_if_eq (pc := 96) C (tgt := 103) dX6_take_96 (by decide) (fun c_96 => ?_) (fun c_96 => ?_)
                      · refine r_iconst (pc := 103) C (v := (-1)) dX6_take_103 (by decide) ?_
                        refine b410 (pc := 104) C hT rfl (by omega) dX6_take_104 ?_
                        refine r_aload0 (pc := 105) C dX6_take_105 ?_
                        refine gX6_34 (pc := 106) C hT dX6_take_106 ?_
                        refine r_iload4 (pc := 109) C dX6_take_109 ?_
                        refine r_iconst (pc := 111) C (v := (-1)) dX6_take_111 (by decide) ?_
                        refine b411 (pc := 112) C hT rfl (by omega) dX6_take_112 ?_
                        refine r_iinc4 (pc := 113) C dX6_take_113 hk ?_
                        refine r_goto (pc := 116) C (tgt := 37) dX6_take_116 (by decide) ?_
                        first
                        | exact absurd c_80 c_96
                        | exact absurd c_96 c_80
                        | (have e1 : tkM τ (nI a) (nI j) t (k + 1) = up (up (up (tkM τ (nI a) (nI j) t k) 69 k 0) 70 k (-1)) 71 k (-1) := (iF_t (And.intro c_54 c_70)).trans (by rw [iF_t c_80, iF_t c_80])
                           have h3 := ih (k + 1); rw [e1] at h3; exact h3 (by omega) (by omega))
                        | (have e1 : tkM τ (nI a) (nI j) t (k + 1) = up (up (up (tkM τ (nI a) (nI j) t k) 69 k 2) 70 k (nI j)) 71 k (-1) := (iF_t (And.intro c_54 c_70)).trans (by rw [iF_f c_80, iF_f c_80])
                           have h3 := ih (k + 1); rw [e1] at h3; exact h3 (by omega) (by omega))
                        | (have e1 : tkM τ (nI a) (nI j) t (k + 1) = (tkM τ (nI a) (nI j) t k) := iF_f (fun h => c_70 h.2)
                           have h3 := ih (k + 1); rw [e1] at h3; exact h3 (by omega) (by omega))
                        | (have e1 : tkM τ (nI a) (nI j) t (k + 1) = (tkM τ (nI a) (nI j) t k) := iF_f (fun h => c_54 h.1)
                           have h3 := ih (k + 1); rw [e1] at h3; exact h3 (by omega) (by omega))
                      · refine r_iload1 (pc := 99) C dX6_take_99 ?_
                        refine r_goto (pc := 100) C (tgt := 104) dX6_take_100 (by decide) ?_
                        refine b410 (pc := 104) C hT rfl (by omega) dX6_take_104 ?_
                        refine r_aload0 (pc := 105) C dX6_take_105 ?_
                        refine gX6_34 (pc := 106) C hT dX6_take_106 ?_
                        refine r_iload4 (pc := 109) C dX6_take_109 ?_
                        refine r_iconst (pc := 111) C (v := (-1)) dX6_take_111 (by decide) ?_
                        refine b411 (pc := 112) C hT rfl (by omega) dX6_take_112 ?_
                        refine r_iinc4 (pc := 113) C dX6_take_113 hk ?_
                        refine r_goto (pc := 116) C (tgt := 37) dX6_take_116 (by decide) ?_
                        first
                        | exact absurd c_80 c_96
                        | exact absurd c_96 c_80
                        | (have e1 : tkM τ (nI a) (nI j) t (k + 1) = up (up (up (tkM τ (nI a) (nI j) t k) 69 k 0) 70 k (-1)) 71 k (-1) := (iF_t (And.intro c_54 c_70)).trans (by rw [iF_t c_80, iF_t c_80])
                           have h3 := ih (k + 1); rw [e1] at h3; exact h3 (by omega) (by omega))
                        | (have e1 : tkM τ (nI a) (nI j) t (k + 1) = up (up (up (tkM τ (nI a) (nI j) t k) 69 k 2) 70 k (nI j)) 71 k (-1) := (iF_t (And.intro c_54 c_70)).trans (by rw [iF_f c_80, iF_f c_80])
                           have h3 := ih (k + 1); rw [e1] at h3; exact h3 (by omega) (by omega))
                        | (have e1 : tkM τ (nI a) (nI j) t (k + 1) = (tkM τ (nI a) (nI j) t k) := iF_f (fun h => c_70 h.2)
                           have h3 := ih (k + 1); rw [e1] at h3; exact h3 (by omega) (by omega))
                        | (have e1 : tkM τ (nI a) (nI j) t (k + 1) = (tkM τ (nI a) (nI j) t k) := iF_f (fun h => c_54 h.1)
                           have h3 := ih (k + 1); rw [e1] at h3; exact h3 (by omega) (by omega))
          exact loop (nr + 1) 0 (by omega) (by omega)
        · have hno : ¬ (cd2 (0 ≤ (nI j) ∧ (nI j) < 5) (¬ σ 81 j = -1)) = 0 := cd2_f (by assumption)
          refine r_iconst (pc := 32) C (v := 0) dX6_take_32 (by decide) ?_
          exact r_iret C rfl dX6_take_33 (by first | exact ⟨fun q => absurd q hno, fun _ => ⟨rfl, rfl⟩⟩ | exact ⟨fun _ => ⟨rfl, rfl⟩, fun q => absurd rfl q⟩) (by decide) (by decide)
      · refine r_iconst (pc := 21) C (v := 1) dX6_take_21 (by decide) ?_
        refine r_goto (pc := 22) C (tgt := 26) dX6_take_22 (by decide) ?_
        refine kX6_124 (pc := 26) C (ask2 l D _ _ _ hT (0 ≤ (nI j) ∧ (nI j) < 5) (¬ σ 81 j = -1) (rfl) (fun hP0 => by first | exact absurd hP0 c_8 | exact (bI_f (fun h => h c_18)).symm | exact (bI_t c_18).symm)) (hT.f (by decide)) rfl dX6_take_26 (Nat.le_of_ble_eq_true rfl) (by decide) ?_
        rintro _ _ ⟨rfl, rfl⟩
        refine r_if_ne_b (pc := 29) C (tgt := 34) dX6_take_29 (by decide) (fun c_29 => ?_) (fun c_29 => ?_)
        · have hok : (cd2 (0 ≤ (nI j) ∧ (nI j) < 5) (¬ σ 81 j = -1)) = 0 := cd2_t c_29
          rw [hok]
          obtain ⟨τ, hτ⟩ : ∃ τ, up σ 60 0 0 = τ := ⟨_, rfl⟩
          rw [hτ]
          obtain ⟨hm1, hm3, hm26, hm18, hnp, hnr, hng, hnb5, hb, hsc, hlc, hpa, hro, hof, hte⟩ := (hτ ▸ ML_up 0 hS : ML nr ng np nb τ)
          obtain ⟨hP, hQ⟩ := c_29
          obtain ⟨a, ha5, hta⟩ := (hof j hj).resolve_left (by rw [← hτ]; exact hQ)
          rw [hta, show (nI a).toNatClampNeg = a from nI_clamp (by omega)]
          refine r_iconst (pc := 34) C (v := 0) dX6_take_34 (by decide) ?_
          refine r_istore4 (pc := 35) C dX6_take_35 ?_
          have loop : ∀ (z k : Nat), k ≤ nr → nr < k + z → V D A 5 (T, ad, cO D ad (tkM τ (nI a) (nI j) t k)) p l e (RM 7 0 0) s m args below meth c 0 0 (vx_MQ below (va_Qi (fun r S1 => ((0 : Int32) = 0 → r = chg (τ 82 j) (iF (t = 0) (-10) 5) ∧ S1 = (T, ad, cO D ad (up (up (up (tkM τ (nI a) (nI j) t nr) 80 a 1) 81 j (-1)) 82 j (chg (τ 82 j) (iF (t = 0) (-10) 5))))) ∧ (¬ (0 : Int32) = 0 → r = 0 ∧ S1 = (T, ad, cO D ad (τ)))) (PoB D A) A) (XCs D (T, ad, cO D ad σ) A (nX)) args s 0 0 A) 37 [some (.ref (ad 400)), some (.int (nI j)), some (.int t), some (.int (bI (0 ≤ (nI j) ∧ (nI j) < 5))), some (.int (nI k))] [] := by
            intro z
            induction z with
            | zero => intro k h1 h2; omega
            | succ z ih =>
              intro k h1 h2
              have hk : nI k + 1 = nI (k + 1) := nI_1 k
              refine r_iload4 (pc := 37) C dX6_take_37 ?_
              refine r_aload0 (pc := 39) C dX6_take_39 ?_
              refine gX6_111 (pc := 40) C hT dX6_take_40 ?_
              rw [tkM_r τ _ _ _ (r := 60) (by decide) (by decide) (by decide) k, hm3]
              refine r_icmp_geN (pc := 43) C (tgt := 119) dX6_take_43 (by decide) (by omega) (by omega) (fun c_43 => ?_) (fun c_43 => ?_)
              · have hkn : k = nr := by omega
                rw [hkn]
                obtain ⟨ρ, hρ⟩ : ∃ ρ, tkM τ (nI a) (nI j) t nr = ρ := ⟨_, rfl⟩
                rw [hρ]
                have hr81 : ρ 81 = τ 81 := by rw [← hρ]; exact tkM_r τ _ _ _ (by decide) (by decide) (by decide) nr
                have hr82 : ρ 82 = τ 82 := by rw [← hρ]; exact tkM_r τ _ _ _ (by decide) (by decide) (by decide) nr
                refine r_aload0 (pc := 119) C dX6_take_119 ?_
                refine gX6_58 (pc := 120) C hT dX6_take_120 ?_
                refine r_aload0 (pc := 123) C dX6_take_123 ?_
                refine gX6_62 (pc := 124) C hT dX6_take_124 ?_
                refine r_iload1 (pc := 127) C dX6_take_127 ?_
                refine a421 (pc := 128) C hT rfl (by omega) dX6_take_128 ?_
                rw [hr81, hta]
                refine r_iconst (pc := 129) C (v := 1) dX6_take_129 (by decide) ?_
                refine b420 (pc := 130) C hT (k := a) (Or.inr rfl) rfl (by omega) dX6_take_130 ?_
                refine r_aload0 (pc := 131) C dX6_take_131 ?_
                refine gX6_62 (pc := 132) C hT dX6_take_132 ?_
                refine r_iload1 (pc := 135) C dX6_take_135 ?_
                refine r_iconst (pc := 136) C (v := (-1)) dX6_take_136 (by decide) ?_
                refine b421 (pc := 137) C hT rfl (by omega) dX6_take_137 ?_
                refine r_aload0 (pc := 138) C dX6_take_138 ?_
                refine gX6_65 (pc := 139) C hT dX6_take_139 ?_
                refine r_iload1 (pc := 142) C dX6_take_142 ?_
                refine r_aload0 (pc := 143) C dX6_take_143 ?_
                refine gX6_65 (pc := 144) C hT dX6_take_144 ?_
                refine r_iload1 (pc := 147) C dX6_take_147 ?_
                refine a422 (pc := 148) C hT rfl (by omega) dX6_take_148 ?_
                rw [show (up (up ρ 80 a 1) 81 j (-1)) 82 j = ρ 82 j from rfl, hr82]
                refine r_iload2 (pc := 149) C dX6_take_149 ?_
                refine r_if_eq (pc := 150) C (tgt := 157) dX6_take_150 (by decide) (fun c_150 => ?_) (fun c_150 => ?_)
                · refine r_bipush (pc := 157) C (v := (-10)) dX6_take_157 (by decide) ?_
                  refine r_iadd (pc := 159) C dX6_take_159 ?_
                  refine r_bipush (pc := 160) C (v := 100) dX6_take_160 (by decide) ?_
                  refine kX6_135 (pc := 162) C (c_X6_within l D _ _ _ (by decide)) dX6_take_162 (Nat.le_of_ble_eq_true rfl) (by decide) ?_
                  rintro _ _ ⟨hr9, hs9⟩
                  rw [hr9, hs9]
                  refine b422 (pc := 165) C hT rfl (by omega) dX6_take_165 ?_
                  refine r_aload0 (pc := 166) C dX6_take_166 ?_
                  refine gX6_65 (pc := 167) C hT dX6_take_167 ?_
                  refine r_iload1 (pc := 170) C dX6_take_170 ?_
                  refine a422 (pc := 171) C hT rfl (by omega) dX6_take_171 ?_
                  exact r_iret C rfl dX6_take_172 (⟨fun _ => ⟨by rw [up_self]; exact congrArg (chg (τ 82 j)) (by first | exact (iF_t c_150).symm | exact (iF_f c_150).symm), by first | rw [iF_t c_150]; rfl | rw [iF_f c_150]; rfl⟩, fun q => absurd rfl q⟩) (by decide) (by decide)
                · refine r_iconst (pc := 153) C (v := 5) dX6_take_153 (by decide) ?_
                  refine r_goto (pc := 154) C (tgt := 159) dX6_take_154 (by decide) ?_
                  refine r_iadd (pc := 159) C dX6_take_159 ?_
                  refine r_bipush (pc := 160) C (v := 100) dX6_take_160 (by decide) ?_
                  refine kX6_135 (pc := 162) C (c_X6_within l D _ _ _ (by decide)) dX6_take_162 (Nat.le_of_ble_eq_true rfl) (by decide) ?_
                  rintro _ _ ⟨hr9, hs9⟩
                  rw [hr9, hs9]
                  refine b422 (pc := 165) C hT rfl (by omega) dX6_take_165 ?_
                  refine r_aload0 (pc := 166) C dX6_take_166 ?_
                  refine gX6_65 (pc := 167) C hT dX6_take_167 ?_
                  refine r_iload1 (pc := 170) C dX6_take_170 ?_
                  refine a422 (pc := 171) C hT rfl (by omega) dX6_take_171 ?_
                  exact r_iret C rfl dX6_take_172 (⟨fun _ => ⟨by rw [up_self]; exact congrArg (chg (τ 82 j)) (by first | exact (iF_t c_150).symm | exact (iF_f c_150).symm), by first | rw [iF_t c_150]; rfl | rw [iF_f c_150]; rfl⟩, fun q => absurd rfl q⟩) (by decide) (by decide)
              · refine r_aload0 (pc := 46) C dX6_take_46 ?_
                refine gX6_28 (pc := 47) C hT dX6_take_47 ?_
                refine r_iload4 (pc := 50) C dX6_take_50 ?_
                refine a409 (pc := 52) C hT rfl (by omega) dX6_take_52 ?_
                refine r_iconst (pc := 53) C (v := 1) dX6_take_53 (by decide) ?_
                refine r_icmp_ne (pc := 54) C (tgt := 113) dX6_take_54 (by decide) (fun c_54 => ?_) (fun c_54 => ?_)
                · refine r_iinc4 (pc := 113) C dX6_take_113 hk ?_
                  refine r_goto (pc := 116) C (tgt := 37) dX6_take_116 (by decide) ?_
                  first
                  | exact absurd c_80 c_96
                  | exact absurd c_96 c_80
                  | (have e1 : tkM τ (nI a) (nI j) t (k + 1) = up (up (up (tkM τ (nI a) (nI j) t k) 69 k 0) 70 k (-1)) 71 k (-1) := (iF_t (And.intro c_54 c_70)).trans (by rw [iF_t c_80, iF_t c_80])
                     have h3 := ih (k + 1); rw [e1] at h3; exact h3 (by omega) (by omega))
                  | (have e1 : tkM τ (nI a) (nI j) t (k + 1) = up (up (up (tkM τ (nI a) (nI j) t k) 69 k 2) 70 k (nI j)) 71 k (-1) := (iF_t (And.intro c_54 c_70)).trans (by rw [iF_f c_80, iF_f c_80])
                     have h3 := ih (k + 1); rw [e1] at h3; exact h3 (by omega) (by omega))
                  | (have e1 : tkM τ (nI a) (nI j) t (k + 1) = (tkM τ (nI a) (nI j) t k) := iF_f (fun h => c_70 h.2)
                     have h3 := ih (k + 1); rw [e1] at h3; exact h3 (by omega) (by omega))
                  | (have e1 : tkM τ (nI a) (nI j) t (k + 1) = (tkM τ (nI a) (nI j) t k) := iF_f (fun h => c_54 h.1)
                     have h3 := ih (k + 1); rw [e1] at h3; exact h3 (by omega) (by omega))
                · refine r_aload0 (pc := 57) C dX6_take_57 ?_
                  refine gX6_34 (pc := 58) C hT dX6_take_58 ?_
                  refine r_iload4 (pc := 61) C dX6_take_61 ?_
                  refine a411 (pc := 63) C hT rfl (by omega) dX6_take_63 ?_
                  refine r_aload0 (pc := 64) C dX6_take_64 ?_
                  refine gX6_62 (pc := 65) C hT dX6_take_65 ?_
                  refine r_iload1 (pc := 68) C dX6_take_68 ?_
                  refine a421 (pc := 69) C hT rfl (by omega) dX6_take_69 ?_
                  rw [tkM_r τ _ _ _ (r := 81) (by decide) (by decide) (by decide) k, hta]
                  refine r_icmp_ne (pc := 70) C (tgt := 113) dX6_take_70 (by decide) (fun c_70 => ?_) (fun c_70 => ?_)
                  · refine r_iinc4 (pc := 113) C dX6_take_113 hk ?_
                    refine r_goto (pc := 116) C (tgt := 37) dX6_take_116 (by decide) ?_
                    first
                    | exact absurd c_80 c_96
                    | exact absurd c_96 c_80
                    | (have e1 : tkM τ (nI a) (nI j) t (k + 1) = up (up (up (tkM τ (nI a) (nI j) t k) 69 k 0) 70 k (-1)) 71 k (-1) := (iF_t (And.intro c_54 c_70)).trans (by rw [iF_t c_80, iF_t c_80])
                       have h3 := ih (k + 1); rw [e1] at h3; exact h3 (by omega) (by omega))
                    | (have e1 : tkM τ (nI a) (nI j) t (k + 1) = up (up (up (tkM τ (nI a) (nI j) t k) 69 k 2) 70 k (nI j)) 71 k (-1) := (iF_t (And.intro c_54 c_70)).trans (by rw [iF_f c_80, iF_f c_80])
                       have h3 := ih (k + 1); rw [e1] at h3; exact h3 (by omega) (by omega))
                    | (have e1 : tkM τ (nI a) (nI j) t (k + 1) = (tkM τ (nI a) (nI j) t k) := iF_f (fun h => c_70 h.2)
                       have h3 := ih (k + 1); rw [e1] at h3; exact h3 (by omega) (by omega))
                    | (have e1 : tkM τ (nI a) (nI j) t (k + 1) = (tkM τ (nI a) (nI j) t k) := iF_f (fun h => c_54 h.1)
                       have h3 := ih (k + 1); rw [e1] at h3; exact h3 (by omega) (by omega))
                  · refine r_aload0 (pc := 73) C dX6_take_73 ?_
                    refine gX6_28 (pc := 74) C hT dX6_take_74 ?_
                    refine r_iload4 (pc := 77) C dX6_take_77 ?_
                    refine r_iload2 (pc := 79) C dX6_take_79 ?_
                    refine r_if_eq (pc := 80) C (tgt := 87) dX6_take_80 (by decide) (fun c_80 => ?_) (fun c_80 => ?_)
                    · refine r_iconst (pc := 87) C (v := 0) dX6_take_87 (by decide) ?_
                      refine b409 (pc := 88) C hT rfl (by omega) dX6_take_88 ?_
                      refine r_aload0 (pc := 89) C dX6_take_89 ?_
                      refine gX6_31 (pc := 90) C hT dX6_take_90 ?_
                      refine r_iload4 (pc := 93) C dX6_take_93 ?_
                      refine r_iload2 (pc := 95) C dX6_take_95 ?_
                      refine r_if_eq (pc := 96) C (tgt := 103) dX6_take_96 (by decide) (fun c_96 => ?_) (fun c_96 => ?_)
                      · refine r_iconst (pc := 103) C (v := (-1)) dX6_take_103 (by decide) ?_
                        refine b410 (pc := 104) C hT rfl (by omega) dX6_take_104 ?_
                        refine r_aload0 (pc := 105) C dX6_take_105 ?_
                        refine gX6_34 (pc := 106) C hT dX6_take_106 ?_
                        refine r_iload4 (pc := 109) C dX6_take_109 ?_
                        refine r_iconst (pc := 111) C (v := (-1)) dX6_take_111 (by decide) ?_
                        refine b411 (pc := 112) C hT rfl (by omega) dX6_take_112 ?_
                        refine r_iinc4 (pc := 113) C dX6_take_113 hk ?_
                        refine r_goto (pc := 116) C (tgt := 37) dX6_take_116 (by decide) ?_
                        first
                        | exact absurd c_80 c_96
                        | exact absurd c_96 c_80
                        | (have e1 : tkM τ (nI a) (nI j) t (k + 1) = up (up (up (tkM τ (nI a) (nI j) t k) 69 k 0) 70 k (-1)) 71 k (-1) := (iF_t (And.intro c_54 c_70)).trans (by rw [iF_t c_80, iF_t c_80])
                           have h3 := ih (k + 1); rw [e1] at h3; exact h3 (by omega) (by omega))
                        | (have e1 : tkM τ (nI a) (nI j) t (k + 1) = up (up (up (tkM τ (nI a) (nI j) t k) 69 k 2) 70 k (nI j)) 71 k (-1) := (iF_t (And.intro c_54 c_70)).trans (by rw [iF_f c_80, iF_f c_80])
                           have h3 := ih (k + 1); rw [e1] at h3; exact h3 (by omega) (by omega))
                        | (have e1 : tkM τ (nI a) (nI j) t (k + 1) = (tkM τ (nI a) (nI j) t k) := iF_f (fun h => c_70 h.2)
                           have h3 := ih (k + 1); rw [e1] at h3; exact h3 (by omega) (by omega))
                        | (have e1 : tkM τ (nI a) (nI j) t (k + 1) = (tkM τ (nI a) (nI j) t k) := iF_f (fun h => c_54 h.1)
                           have h3 := ih (k + 1); rw [e1] at h3; exact h3 (by omega) (by omega))
                      · refine r_iload1 (pc := 99) C dX6_take_99 ?_
                        refine r_goto (pc := 100) C (tgt := 104) dX6_take_100 (by decide) ?_
                        refine b410 (pc := 104) C hT rfl (by omega) dX6_take_104 ?_
                        refine r_aload0 (pc := 105) C dX6_take_105 ?_
                        refine gX6_34 (pc := 106) C hT dX6_take_106 ?_
                        refine r_iload4 (pc := 109) C dX6_take_109 ?_
                        refine r_iconst (pc := 111) C (v := (-1)) dX6_take_111 (by decide) ?_
                        refine b411 (pc := 112) C hT rfl (by omega) dX6_take_112 ?_
                        refine r_iinc4 (pc := 113) C dX6_take_113 hk ?_
                        refine r_goto (pc := 116) C (tgt := 37) dX6_take_116 (by decide) ?_
                        first
                        | exact absurd c_80 c_96
                        | exact absurd c_96 c_80
                        | (have e1 : tkM τ (nI a) (nI j) t (k + 1) = up (up (up (tkM τ (nI a) (nI j) t k) 69 k 0) 70 k (-1)) 71 k (-1) := (iF_t (And.intro c_54 c_70)).trans (by rw [iF_t c_80, iF_t c_80])
                           have h3 := ih (k + 1); rw [e1] at h3; exact h3 (by omega) (by omega))
                        | (have e1 : tkM τ (nI a) (nI j) t (k + 1) = up (up (up (tkM τ (nI a) (nI j) t k) 69 k 2) 70 k (nI j)) 71 k (-1) := (iF_t (And.intro c_54 c_70)).trans (by rw [iF_f c_80, iF_f c_80])
                           have h3 := ih (k + 1); rw [e1] at h3; exact h3 (by omega) (by omega))
                        | (have e1 : tkM τ (nI a) (nI j) t (k + 1) = (tkM τ (nI a) (nI j) t k) := iF_f (fun h => c_70 h.2)
                           have h3 := ih (k + 1); rw [e1] at h3; exact h3 (by omega) (by omega))
                        | (have e1 : tkM τ (nI a) (nI j) t (k + 1) = (tkM τ (nI a) (nI j) t k) := iF_f (fun h => c_54 h.1)
                           have h3 := ih (k + 1); rw [e1] at h3; exact h3 (by omega) (by omega))
                    · refine r_iconst (pc := 83) C (v := 2) dX6_take_83 (by decide) ?_
                      refine r_goto (pc := 84) C (tgt := 88) dX6_take_84 (by decide) ?_
                      refine b409 (pc := 88) C hT rfl (by omega) dX6_take_88 ?_
                      refine r_aload0 (pc := 89) C dX6_take_89 ?_
                      refine gX6_31 (pc := 90) C hT dX6_take_90 ?_
                      refine r_iload4 (pc := 93) C dX6_take_93 ?_
                      refine r_iload2 (pc := 95) C dX6_take_95 ?_
                      refine r_if_eq (pc := 96) C (tgt := 103) dX6_take_96 (by decide) (fun c_96 => ?_) (fun c_96 => ?_)
                      · refine r_iconst (pc := 103) C (v := (-1)) dX6_take_103 (by decide) ?_
                        refine b410 (pc := 104) C hT rfl (by omega) dX6_take_104 ?_
                        refine r_aload0 (pc := 105) C dX6_take_105 ?_
                        refine gX6_34 (pc := 106) C hT dX6_take_106 ?_
                        refine r_iload4 (pc := 109) C dX6_take_109 ?_
                        refine r_iconst (pc := 111) C (v := (-1)) dX6_take_111 (by decide) ?_
                        refine b411 (pc := 112) C hT rfl (by omega) dX6_take_112 ?_
                        refine r_iinc4 (pc := 113) C dX6_take_113 hk ?_
                        refine r_goto (pc := 116) C (tgt := 37) dX6_take_116 (by decide) ?_
                        first
                        | exact absurd c_80 c_96
                        | exact absurd c_96 c_80
                        | (have e1 : tkM τ (nI a) (nI j) t (k + 1) = up (up (up (tkM τ (nI a) (nI j) t k) 69 k 0) 70 k (-1)) 71 k (-1) := (iF_t (And.intro c_54 c_70)).trans (by rw [iF_t c_80, iF_t c_80])
                           have h3 := ih (k + 1); rw [e1] at h3; exact h3 (by omega) (by omega))
                        | (have e1 : tkM τ (nI a) (nI j) t (k + 1) = up (up (up (tkM τ (nI a) (nI j) t k) 69 k 2) 70 k (nI j)) 71 k (-1) := (iF_t (And.intro c_54 c_70)).trans (by rw [iF_f c_80, iF_f c_80])
                           have h3 := ih (k + 1); rw [e1] at h3; exact h3 (by omega) (by omega))
                        | (have e1 : tkM τ (nI a) (nI j) t (k + 1) = (tkM τ (nI a) (nI j) t k) := iF_f (fun h => c_70 h.2)
                           have h3 := ih (k + 1); rw [e1] at h3; exact h3 (by omega) (by omega))
                        | (have e1 : tkM τ (nI a) (nI j) t (k + 1) = (tkM τ (nI a) (nI j) t k) := iF_f (fun h => c_54 h.1)
                           have h3 := ih (k + 1); rw [e1] at h3; exact h3 (by omega) (by omega))
                      · refine r_iload1 (pc := 99) C dX6_take_99 ?_
                        refine r_goto (pc := 100) C (tgt := 104) dX6_take_100 (by decide) ?_
                        refine b410 (pc := 104) C hT rfl (by omega) dX6_take_104 ?_
                        refine r_aload0 (pc := 105) C dX6_take_105 ?_
                        refine gX6_34 (pc := 106) C hT dX6_take_106 ?_
                        refine r_iload4 (pc := 109) C dX6_take_109 ?_
                        refine r_iconst (pc := 111) C (v := (-1)) dX6_take_111 (by decide) ?_
                        refine b411 (pc := 112) C hT rfl (by omega) dX6_take_112 ?_
                        refine r_iinc4 (pc := 113) C dX6_take_113 hk ?_
                        refine r_goto (pc := 116) C (tgt := 37) dX6_take_116 (by decide) ?_
                        first
                        | exact absurd c_80 c_96
                        | exact absurd c_96 c_80
                        | (have e1 : tkM τ (nI a) (nI j) t (k + 1) = up (up (up (tkM τ (nI a) (nI j) t k) 69 k 0) 70 k (-1)) 71 k (-1) := (iF_t (And.intro c_54 c_70)).trans (by rw [iF_t c_80, iF_t c_80])
                           have h3 := ih (k + 1); rw [e1] at h3; exact h3 (by omega) (by omega))
                        | (have e1 : tkM τ (nI a) (nI j) t (k + 1) = up (up (up (tkM τ (nI a) (nI j) t k) 69 k 2) 70 k (nI j)) 71 k (-1) := (iF_t (And.intro c_54 c_70)).trans (by rw [iF_f c_80, iF_f c_80])
                           have h3 := ih (k + 1); rw [e1] at h3; exact h3 (by omega) (by omega))
                        | (have e1 : tkM τ (nI a) (nI j) t (k + 1) = (tkM τ (nI a) (nI j) t k) := iF_f (fun h => c_70 h.2)
                           have h3 := ih (k + 1); rw [e1] at h3; exact h3 (by omega) (by omega))
                        | (have e1 : tkM τ (nI a) (nI j) t (k + 1) = (tkM τ (nI a) (nI j) t k) := iF_f (fun h => c_54 h.1)
                           have h3 := ih (k + 1); rw [e1] at h3; exact h3 (by omega) (by omega))
          exact loop (nr + 1) 0 (by omega) (by omega)
        · have hno : ¬ (cd2 (0 ≤ (nI j) ∧ (nI j) < 5) (¬ σ 81 j = -1)) = 0 := cd2_f (by assumption)
          refine r_iconst (pc := 32) C (v := 0) dX6_take_32 (by decide) ?_
          exact r_iret C rfl dX6_take_33 (by first | exact ⟨fun q => absurd q hno, fun _ => ⟨rfl, rfl⟩⟩ | exact ⟨fun _ => ⟨rfl, rfl⟩, fun q => absurd rfl q⟩) (by decide) (by decide)
  · refine r_iload1 (pc := 0) C dX6_take_0 ?_
    refine kX6_174 (pc := 1) C (c_X6_isBuyer l D _ _) dX6_take_1 (Nat.le_of_ble_eq_true rfl) (by decide) ?_
    rintro _ _ ⟨rfl, rfl⟩
    refine r_istore3 (pc := 4) C dX6_take_4 ?_
    refine r_aload0 (pc := 5) C dX6_take_5 ?_
    refine r_iload3 (pc := 6) C dX6_take_6 ?_
    refine r_iload3 (pc := 7) C dX6_take_7 ?_
    refine r_if_eq_b (pc := 8) C (tgt := 25) dX6_take_8 (by decide) (fun c_8 => ?_) (fun c_8 => ?_)
    · refine r_iconst (pc := 25) C (v := 0) dX6_take_25 (by decide) ?_
      refine kX6_124 (pc := 26) C (ask2 l D _ _ _ hT (0 ≤ x ∧ x < 5) (¬ σ 81 x.toNatClampNeg = -1) (rfl) (fun hP0 => by exact absurd hP0 h_x)) (hT.f (by decide)) rfl dX6_take_26 (Nat.le_of_ble_eq_true rfl) (by decide) ?_
      rintro _ _ ⟨rfl, rfl⟩
      refine r_if_ne_b (pc := 29) C (tgt := 34) dX6_take_29 (by decide) (fun c_29 => ?_) (fun c_29 => ?_)
      · first | exact absurd c_29.1 h_x | exact absurd c_29.1.2 h_x | exact absurd c_29.1.1 h_x | exact absurd (And.intro c_29.1.2.1 (le3 c_29.1.2.2)) h_x | (exfalso; grind)
      · have hno : ¬ (cd2 (0 ≤ x ∧ x < 5) (¬ σ 81 x.toNatClampNeg = -1)) = 0 := cd2_f (by assumption)
        refine r_iconst (pc := 32) C (v := 0) dX6_take_32 (by decide) ?_
        exact r_iret C rfl dX6_take_33 (by first | exact ⟨fun q => absurd q hno, fun _ => ⟨rfl, rfl⟩⟩ | exact ⟨fun _ => ⟨rfl, rfl⟩, fun q => absurd rfl q⟩) (by decide) (by decide)
    · exact absurd c_8 h_x


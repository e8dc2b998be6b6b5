noncomputable def bvM (σ : Mm) (x : Int32) : Nat → Int32
  | 0 => 0
  | k + 1 => iF (σ 69 k = 1 ∧ σ 71 k = x) (bvM σ x k + valM σ k) (bvM σ x k)
noncomputable def ucM (σ : Mm) : Nat → Int32
  | 0 => 0
  | k + 1 => iF (σ 69 k = 3) (ucM σ k) (ucM σ k + σ 65 k)
noncomputable def wrM (σ : Mm) : Nat → Int32
  | 0 => 0
  | k + 1 => iF (¬ σ 92 k = -1 ∧ ¬ σ 92 k = orgM σ k) (wrM σ k + 1) (wrM σ k)
noncomputable def alM (σ : Mm) (nr ng : Nat) (y : Int32) : Int32 := iF (y = 0) (sumF (σ 65) nr) (iF (y = 1) (ucM σ nr) (iF (y = 2) (sumF (σ 88) ng) (iF (y = 3) (σ 60 38) (iF (y = 4) (sumF (σ 97) 4) (wrM σ ng)))))
set_option maxRecDepth 100000 in
set_option maxHeartbeats 4000000 in
theorem c_X6_boxValue (l : Launch) (D : Gt) (T : List Nat) (ad : Nat → Nat) (σ : Mm) {nr ng : Nat} (hT : TG nr ng T) {np nb : Nat} (hM : ML nr ng np nb σ) (x : Int32) : KI D l yX6_boxValue (uws yX6_boxValue cX6_boxValue 4 (some .int)) (RM 7 0 0) [.ref (ad 400), .int x] (T, ad, cO D ad σ) (fun r S1 => ((cd1 (0 ≤ x ∧ x < nI nb)) = 0 → r = iF ((up σ 60 0 0) 80 x.toNatClampNeg = 0) (bvM (up σ 60 0 0) x nr) (-1) ∧ S1 = (T, ad, cO D ad ((up σ 60 0 0)))) ∧ (¬ (cd1 (0 ≤ x ∧ x < nI nb)) = 0 → r = 0 ∧ S1 = (T, ad, cO D ad (up σ 60 0 (cd1 (0 ≤ x ∧ x < nI nb)))))) (nX) 0 0 := by
  refine KI_of (own := RX6) (L0 := [some (.ref (ad 400)), some (.int x), none, none]) (by decide +kernel) rfl (catc rfl (catc rfl cat0)) (Nat.le_of_ble_eq_true rfl) rfl ?_
  intro p e s m args below meth c A hnm C
  have hS := hM
  obtain ⟨hm1, hm3, hm26, hm18, hnp, hnr, hng, hnb5, hb, hsc, hlc, hpa, hro, hof, hte⟩ := hM
  by_cases h_x : 0 ≤ x ∧ x < nI nb
  · obtain ⟨j, hj, rfl⟩ := ix_of (N := nb) (by omega) h_x
    rw [nI_clamp (by omega)]
    refine r_aload0 (pc := 0) C dX6_boxValue_0 ?_
    refine r_iload1 (pc := 1) C dX6_boxValue_1 ?_
    refine r_iconst (pc := 2) C (v := 0) dX6_boxValue_2 (by decide) ?_
    refine r_aload0 (pc := 3) C dX6_boxValue_3 ?_
    refine gX6_157 (pc := 4) C hT dX6_boxValue_4 ?_
    refine r_iconst (pc := 7) C (v := 1) dX6_boxValue_7 (by decide) ?_
    rw [hm18]
    refine r_isub (pc := 8) C dX6_boxValue_8 ?_
    refine kX6_114 (pc := 9) C (c_X6_in l D _ _ _ _) dX6_boxValue_9 (Nat.le_of_ble_eq_true rfl) (by decide) ?_
    rintro _ _ ⟨rfl, rfl⟩
    refine kX6_148 (pc := 12) C (ask1 l D _ _ _ hT (0 ≤ (nI j) ∧ (nI j) < nI nb) (bI_c (by rw [le_pred (by omega)]))) (hT.f (by decide)) rfl dX6_boxValue_12 (Nat.le_of_ble_eq_true rfl) (by decide) ?_
    rintro _ _ ⟨rfl, rfl⟩
    refine r_if_ne_b (pc := 15) C (tgt := 20) dX6_boxValue_15 (by decide) (fun c_15 => ?_) (fun c_15 => ?_)
    · have hok : (cd1 (0 ≤ (nI j) ∧ (nI j) < nI nb)) = 0 := cd1_t c_15
      rw [hok]
      obtain ⟨τ, hτ⟩ : ∃ τ, up σ 60 0 0 = τ := ⟨_, rfl⟩
      rw [hτ]
      obtain ⟨hm1, hm3, hm26, hm18, hnp, hnr, hng, hnb5, hb, hsc, hlc, hpa, hro, hof, hte⟩ := (hτ ▸ ML_up 0 hS : ML nr ng np nb τ)
      have hP := c_15
      refine r_iconst (pc := 20) C (v := 0) dX6_boxValue_20 (by decide) ?_
      refine r_istore2 (pc := 21) C dX6_boxValue_21 ?_
      refine r_iconst (pc := 22) C (v := 0) dX6_boxValue_22 (by decide) ?_
      refine r_istore3 (pc := 23) C dX6_boxValue_23 ?_
      have loop : ∀ (z k : Nat), k ≤ nr → nr < k + z → V D A 4 (T, ad, cO D ad (τ)) p l e (RM 7 0 0) s m args below meth c 0 0 (vx_MQ below (va_Qi (fun r S1 => ((0 : Int32) = 0 → r = iF (τ 80 j = 0) (bvM τ (nI j) nr) (-1) ∧ S1 = (T, ad, cO D ad (τ))) ∧ (¬ (0 : Int32) = 0 → r = 0 ∧ S1 = (T, ad, cO D ad (τ)))) (PoB D A) A) (XCs D (T, ad, cO D ad σ) A (nX)) args s 0 0 A) 24 [some (.ref (ad 400)), some (.int (nI j)), some (.int (bvM τ (nI j) k)), some (.int (nI k))] [] := by
        intro z
        induction z with
        | zero => intro k h1 h2; omega
        | succ z ih =>
          intro k h1 h2
          have hk : nI k + 1 = nI (k + 1) := nI_1 k
          refine r_iload3 (pc := 24) C dX6_boxValue_24 ?_
          refine r_aload0 (pc := 25) C dX6_boxValue_25 ?_
          refine gX6_111 (pc := 26) C hT dX6_boxValue_26 ?_
          rw [hm3]
          refine r_icmp_geN (pc := 29) C (tgt := 70) dX6_boxValue_29 (by decide) (by omega) (by omega) (fun c_29 => ?_) (fun c_29 => ?_)
          · refine r_aload0 (pc := 70) C dX6_boxValue_70 ?_
            refine gX6_58 (pc := 71) C hT dX6_boxValue_71 ?_
            refine r_iload1 (pc := 74) C dX6_boxValue_74 ?_
            refine a420 (pc := 75) C hT rfl (by omega) dX6_boxValue_75 ?_
            refine r_if_eq (pc := 76) C (tgt := 83) dX6_boxValue_76 (by decide) (fun c_76 => ?_) (fun c_76 => ?_)
            · refine r_iload2 (pc := 83) C dX6_boxValue_83 ?_
              exact r_iret C rfl dX6_boxValue_84 (⟨fun _ => ⟨by (try rw [show k = nr by omega]); first | exact (iF_t c_76).symm | exact (iF_f c_76).symm, rfl⟩, fun q => absurd rfl q⟩) (by decide) (by decide)
            · refine r_iconst (pc := 79) C (v := (-1)) dX6_boxValue_79 (by decide) ?_
              refine r_goto (pc := 80) C (tgt := 84) dX6_boxValue_80 (by decide) ?_
              exact r_iret C rfl dX6_boxValue_84 (⟨fun _ => ⟨by (try rw [show k = nr by omega]); first | exact (iF_t c_76).symm | exact (iF_f c_76).symm, rfl⟩, fun q => absurd rfl q⟩) (by decide) (by decide)
          · refine r_iload2 (pc := 32) C dX6_boxValue_32 ?_
            refine r_aload0 (pc := 33) C dX6_boxValue_33 ?_
            refine gX6_28 (pc := 34) C hT dX6_boxValue_34 ?_
            refine r_iload3 (pc := 37) C dX6_boxValue_37 ?_
            refine a409 (pc := 38) C hT rfl (by omega) dX6_boxValue_38 ?_
            refine r_iconst (pc := 39) C (v := 1) dX6_boxValue_39 (by decide) ?_
            refine r_icmp_ne (pc := 40) C (tgt := 61) dX6_boxValue_40 (by decide) (fun c_40 => ?_) (fun c_40 => ?_)
            · refine r_iconst (pc := 61) C (v := 0) dX6_boxValue_61 (by decide) ?_
              refine r_iadd (pc := 62) C dX6_boxValue_62 ?_
              try rw [Int32.add_zero]
              refine r_istore2 (pc := 63) C dX6_boxValue_63 ?_
              refine r_iinc3 (pc := 64) C dX6_boxValue_64 hk ?_
              refine r_goto (pc := 67) C (tgt := 24) dX6_boxValue_67 (by decide) ?_
              first
              | (have e1 : bvM τ (nI j) (k + 1) = bvM τ (nI j) k + valM τ k := iF_t (And.intro c_40 c_50)
                 have h3 := ih (k + 1); rw [e1] at h3; exact h3 (by omega) (by omega))
              | (have e1 : bvM τ (nI j) (k + 1) = bvM τ (nI j) k := iF_f (fun h => c_50 h.2)
                 have h3 := ih (k + 1); rw [e1] at h3; exact h3 (by omega) (by omega))
              | (have e1 : bvM τ (nI j) (k + 1) = bvM τ (nI j) k := iF_f (fun h => c_40 h.1)
                 have h3 := ih (k + 1); rw [e1] at h3; exact h3 (by omega) (by omega))
            · refine r_aload0 (pc := 43) C dX6_boxValue_43 ?_
              refine gX6_34 (pc := 44) C hT dX6_boxValue_44 ?_
              refine r_iload3 (pc := 47) C dX6_boxValue_47 ?_
              refine a411 (pc := 48) C hT rfl (by omega) dX6_boxValue_48 ?_
              refine r_iload1 (pc := 49) C dX6_boxValue_49 ?_
              refine r_icmp_ne (pc := 50) C (tgt := 61) dX6_boxValue_50 (by decide) (fun c_50 => ?_) (fun c_50 => ?_)
              · refine r_iconst (pc := 61) C (v := 0) dX6_boxValue_61 (by decide) ?_
                refine r_iadd (pc := 62) C dX6_boxValue_62 ?_
                try rw [Int32.add_zero]
                refine r_istore2 (pc := 63) C dX6_boxValue_63 ?_
                refine r_iinc3 (pc := 64) C dX6_boxValue_64 hk ?_
                refine r_goto (pc := 67) C (tgt := 24) dX6_boxValue_67 (by decide) ?_
                first
                | (have e1 : bvM τ (nI j) (k + 1) = bvM τ (nI j) k + valM τ k := iF_t (And.intro c_40 c_50)
                   have h3 := ih (k + 1); rw [e1] at h3; exact h3 (by omega) (by omega))
                | (have e1 : bvM τ (nI j) (k + 1) = bvM τ (nI j) k := iF_f (fun h => c_50 h.2)
                   have h3 := ih (k + 1); rw [e1] at h3; exact h3 (by omega) (by omega))
                | (have e1 : bvM τ (nI j) (k + 1) = bvM τ (nI j) k := iF_f (fun h => c_40 h.1)
                   have h3 := ih (k + 1); rw [e1] at h3; exact h3 (by omega) (by omega))
              · refine r_aload0 (pc := 53) C dX6_boxValue_53 ?_
                refine r_iload3 (pc := 54) C dX6_boxValue_54 ?_
                refine kX6_151 (pc := 55) C (c_X6_valueOf l D _ _ _ hT (by omega) hb) (hT.f (by decide)) rfl dX6_boxValue_55 (Nat.le_of_ble_eq_true rfl) (by decide) ?_
                rintro _ _ ⟨rfl, rfl⟩
                refine r_goto (pc := 58) C (tgt := 62) dX6_boxValue_58 (by decide) ?_
                refine r_iadd (pc := 62) C dX6_boxValue_62 ?_
                try rw [Int32.add_zero]
                refine r_istore2 (pc := 63) C dX6_boxValue_63 ?_
                refine r_iinc3 (pc := 64) C dX6_boxValue_64 hk ?_
                refine r_goto (pc := 67) C (tgt := 24) dX6_boxValue_67 (by decide) ?_
                first
                | (have e1 : bvM τ (nI j) (k + 1) = bvM τ (nI j) k + valM τ k := iF_t (And.intro c_40 c_50)
                   have h3 := ih (k + 1); rw [e1] at h3; exact h3 (by omega) (by omega))
                | (have e1 : bvM τ (nI j) (k + 1) = bvM τ (nI j) k := iF_f (fun h => c_50 h.2)
                   have h3 := ih (k + 1); rw [e1] at h3; exact h3 (by omega) (by omega))
                | (have e1 : bvM τ (nI j) (k + 1) = bvM τ (nI j) k := iF_f (fun h => c_40 h.1)
                   have h3 := ih (k + 1); rw [e1] at h3; exact h3 (by omega) (by omega))
      exact loop (nr + 1) 0 (by omega) (by omega)
    · have hno : ¬ (cd1 (0 ≤ (nI j) ∧ (nI j) < nI nb)) = 0 := cd1_f (by assumption)
      refine r_iconst (pc := 18) C (v := 0) dX6_boxValue_18 (by decide) ?_
      exact r_iret C rfl dX6_boxValue_19 (by first | exact ⟨fun q => absurd q hno, fun _ => ⟨rfl, rfl⟩⟩ | exact ⟨fun _ => ⟨rfl, rfl⟩, fun q => absurd rfl q⟩) (by decide) (by decide)
  · refine r_aload0 (pc := 0) C dX6_boxValue_0 ?_
    refine r_iload1 (pc := 1) C dX6_boxValue_1 ?_
    refine r_iconst (pc := 2) C (v := 0) dX6_boxValue_2 (by decide) ?_
    refine r_aload0 (pc := 3) C dX6_boxValue_3 ?_
    refine gX6_157 (pc := 4) C hT dX6_boxValue_4 ?_
    refine r_iconst (pc := 7) C (v := 1) dX6_boxValue_7 (by decide) ?_
    rw [hm18]
    refine r_isub (pc := 8) C dX6_boxValue_8 ?_
    refine kX6_114 (pc := 9) C (c_X6_in l D _ _ _ _) dX6_boxValue_9 (Nat.le_of_ble_eq_true rfl) (by decide) ?_
    rintro _ _ ⟨rfl, rfl⟩
    refine kX6_148 (pc := 12) C (ask1 l D _ _ _ hT (0 ≤ x ∧ x < nI nb) (bI_c (by rw [le_pred (by omega)]))) (hT.f (by decide)) rfl dX6_boxValue_12 (Nat.le_of_ble_eq_true rfl) (by decide) ?_
    rintro _ _ ⟨rfl, rfl⟩
    refine r_if_ne_b (pc := 15) C (tgt := 20) dX6_boxValue_15 (by decide) (fun c_15 => ?_) (fun c_15 => ?_)
    · exact absurd c_15 h_x
    · have hno : ¬ (cd1 (0 ≤ x ∧ x < nI nb)) = 0 := cd1_f (by assumption)
      refine r_iconst (pc := 18) C (v := 0) dX6_boxValue_18 (by decide) ?_
      exact r_iret C rfl dX6_boxValue_19 (by first | exact ⟨fun q => absurd q hno, fun _ => ⟨rfl, rfl⟩⟩ | exact ⟨fun _ => ⟨rfl, rfl⟩, fun q => absurd rfl q⟩) (by decide) (by decide)

set_option maxRecDepth 100000 in
set_option maxHeartbeats 4000000 in
theorem c_X6_all (l : Launch) (D : Gt) (T : List Nat) (ad : Nat → Nat) (σ : Mm) {nr ng : Nat} (hT : TG nr ng T) {np nb : Nat} (hM : ML nr ng np nb σ) (y : Int32) : KI D l yX6_all (uws yX6_all cX6_all 8 (some .int)) (RM 7 0 0) [.ref (ad 400), .int y] (T, ad, cO D ad σ) (fun r S1 => ((cd1 (0 ≤ y ∧ y ≤ 5)) = 0 → r = alM (up σ 60 0 0) nr ng y ∧ S1 = (T, ad, cO D ad ((up σ 60 0 0)))) ∧ (¬ (cd1 (0 ≤ y ∧ y ≤ 5)) = 0 → r = 0 ∧ S1 = (T, ad, cO D ad (up σ 60 0 (cd1 (0 ≤ y ∧ y ≤ 5)))))) (nX) 0 0 := by
  refine KI_of (own := RX6) (L0 := [some (.ref (ad 400)), some (.int y), none, none, none, none, none, none]) (by decide +kernel) rfl (catc rfl (catc rfl cat0)) (Nat.le_of_ble_eq_true rfl) rfl ?_
  intro p e s m args below meth c A hnm C
  have hS := hM
  obtain ⟨hm1, hm3, hm26, hm18, hnp, hnr, hng, hnb5, hb, hsc, hlc, hpa, hro, hof, hte⟩ := hM
  refine r_aload0 (pc := 0) C dX6_all_0 ?_
  refine r_iload1 (pc := 1) C dX6_all_1 ?_
  refine r_iconst (pc := 2) C (v := 0) dX6_all_2 (by decide) ?_
  refine r_iconst (pc := 3) C (v := 5) dX6_all_3 (by decide) ?_
  refine kX6_114 (pc := 4) C (c_X6_in l D _ _ _ _) dX6_all_4 (Nat.le_of_ble_eq_true rfl) (by decide) ?_
  rintro _ _ ⟨rfl, rfl⟩
  refine kX6_148 (pc := 7) C (ask1 l D _ _ _ hT (0 ≤ y ∧ y ≤ 5) (rfl)) (hT.f (by decide)) rfl dX6_all_7 (Nat.le_of_ble_eq_true rfl) (by decide) ?_
  rintro _ _ ⟨rfl, rfl⟩
  refine r_if_ne_b (pc := 10) C (tgt := 15) dX6_all_10 (by decide) (fun c_10 => ?_) (fun c_10 => ?_)
  · have hok : (cd1 (0 ≤ y ∧ y ≤ 5)) = 0 := cd1_t c_10
    rw [hok]
    obtain ⟨τ, hτ⟩ : ∃ τ, up σ 60 0 0 = τ := ⟨_, rfl⟩
    rw [hτ]
    obtain ⟨hm1, hm3, hm26, hm18, hnp, hnr, hng, hnb5, hb, hsc, hlc, hpa, hro, hof, hte⟩ := (hτ ▸ ML_up 0 hS : ML nr ng np nb τ)
    have hP := c_10
    refine r_iconst (pc := 15) C (v := 0) dX6_all_15 (by decide) ?_
    refine r_istore2 (pc := 16) C dX6_all_16 ?_
    refine r_iconst (pc := 17) C (v := 0) dX6_all_17 (by decide) ?_
    refine r_istore3 (pc := 18) C dX6_all_18 ?_
    refine r_iconst (pc := 19) C (v := 0) dX6_all_19 (by decide) ?_
    refine r_istore4 (pc := 20) C dX6_all_20 ?_
    have loop3 : ∀ (z k : Nat), k ≤ 4 → 4 < k + z → V D A 8 (T, ad, cO D ad (τ)) p l e (RM 7 0 0) s m args below meth c 0 0 (vx_MQ below (va_Qi (fun r S1 => ((0 : Int32) = 0 → r = alM τ nr ng y ∧ S1 = (T, ad, cO D ad (τ))) ∧ (¬ (0 : Int32) = 0 → r = 0 ∧ S1 = (T, ad, cO D ad (τ)))) (PoB D A) A) (XCs D (T, ad, cO D ad σ) A (nX)) args s 0 0 A) 151 [some (.ref (ad 400)), some (.int y), some (.int (sumF (τ 65) nr)), some (.int (ucM τ nr)), some (.int (sumF (τ 88) ng)), some (.int (wrM τ ng)), some (.int (sumF (τ 97) k)), some (.int (nI k))] [] := by
      intro z
      induction z with
      | zero => intro k h1 h2; omega
      | succ z ih =>
        intro k h1 h2
        have hk : nI k + 1 = nI (k + 1) := nI_1 k
        refine r_iload7 (pc := 151) C dX6_all_151 ?_
        refine r_iconst (pc := 153) C (v := nI 4) dX6_all_153 (by decide) ?_
        refine r_icmp_geN (pc := 154) C (tgt := 175) dX6_all_154 (by decide) (by omega) (by omega) (fun c_154 => ?_) (fun c_154 => ?_)
        · refine r_iload1 (pc := 175) C dX6_all_175 ?_
          refine r_if_ne (pc := 176) C (tgt := 183) dX6_all_176 (by decide) (fun c_176 => ?_) (fun c_176 => ?_)
          · refine r_iload1 (pc := 183) C dX6_all_183 ?_
            refine r_iconst (pc := 184) C (v := 1) dX6_all_184 (by decide) ?_
            refine r_icmp_ne (pc := 185) C (tgt := 192) dX6_all_185 (by decide) (fun c_185 => ?_) (fun c_185 => ?_)
            · refine r_iload1 (pc := 192) C dX6_all_192 ?_
              refine r_iconst (pc := 193) C (v := 2) dX6_all_193 (by decide) ?_
              refine r_icmp_ne (pc := 194) C (tgt := 202) dX6_all_194 (by decide) (fun c_194 => ?_) (fun c_194 => ?_)
              · refine r_iload1 (pc := 202) C dX6_all_202 ?_
                refine r_iconst (pc := 203) C (v := 3) dX6_all_203 (by decide) ?_
                refine r_icmp_ne (pc := 204) C (tgt := 214) dX6_all_204 (by decide) (fun c_204 => ?_) (fun c_204 => ?_)
                · refine r_iload1 (pc := 214) C dX6_all_214 ?_
                  refine r_iconst (pc := 215) C (v := 4) dX6_all_215 (by decide) ?_
                  refine r_icmp_ne (pc := 216) C (tgt := 224) dX6_all_216 (by decide) (fun c_216 => ?_) (fun c_216 => ?_)
                  · refine r_iload5 (pc := 224) C dX6_all_224 ?_
                    exact r_iret C rfl dX6_all_226 (⟨fun _ => ⟨by (try rw [show k = 4 by omega]); unfold alM; (first | rw [iF_t (show y = 0 by assumption)] | (rw [iF_f (show ¬ y = 0 by assumption)]; first | rw [iF_t (show y = 1 by assumption)] | (rw [iF_f (show ¬ y = 1 by assumption)]; first | rw [iF_t (show y = 2 by assumption)] | (rw [iF_f (show ¬ y = 2 by assumption)]; first | rw [iF_t (show y = 3 by assumption)] | (rw [iF_f (show ¬ y = 3 by assumption)]; first | rw [iF_t (show y = 4 by assumption)] | (rw [iF_f (show ¬ y = 4 by assumption)])))))), rfl⟩, fun q => absurd rfl q⟩) (by decide) (by decide)
                  · refine r_iload6 (pc := 219) C dX6_all_219 ?_
                    refine r_goto (pc := 221) C (tgt := 226) dX6_all_221 (by decide) ?_
                    exact r_iret C rfl dX6_all_226 (⟨fun _ => ⟨by (try rw [show k = 4 by omega]); unfold alM; (first | rw [iF_t (show y = 0 by assumption)] | (rw [iF_f (show ¬ y = 0 by assumption)]; first | rw [iF_t (show y = 1 by assumption)] | (rw [iF_f (show ¬ y = 1 by assumption)]; first | rw [iF_t (show y = 2 by assumption)] | (rw [iF_f (show ¬ y = 2 by assumption)]; first | rw [iF_t (show y = 3 by assumption)] | (rw [iF_f (show ¬ y = 3 by assumption)]; first | rw [iF_t (show y = 4 by assumption)] | (rw [iF_f (show ¬ y = 4 by assumption)])))))), rfl⟩, fun q => absurd rfl q⟩) (by decide) (by decide)
                · refine r_aload0 (pc := 207) C dX6_all_207 ?_
                  refine gX6_191 (pc := 208) C hT dX6_all_208 ?_
                  refine r_goto (pc := 211) C (tgt := 226) dX6_all_211 (by decide) ?_
                  exact r_iret C rfl dX6_all_226 (⟨fun _ => ⟨by (try rw [show k = 4 by omega]); unfold alM; (first | rw [iF_t (show y = 0 by assumption)] | (rw [iF_f (show ¬ y = 0 by assumption)]; first | rw [iF_t (show y = 1 by assumption)] | (rw [iF_f (show ¬ y = 1 by assumption)]; first | rw [iF_t (show y = 2 by assumption)] | (rw [iF_f (show ¬ y = 2 by assumption)]; first | rw [iF_t (show y = 3 by assumption)] | (rw [iF_f (show ¬ y = 3 by assumption)]; first | rw [iF_t (show y = 4 by assumption)] | (rw [iF_f (show ¬ y = 4 by assumption)])))))), rfl⟩, fun q => absurd rfl q⟩) (by decide) (by decide)
              · refine r_iload4 (pc := 197) C dX6_all_197 ?_
                refine r_goto (pc := 199) C (tgt := 226) dX6_all_199 (by decide) ?_
                exact r_iret C rfl dX6_all_226 (⟨fun _ => ⟨by (try rw [show k = 4 by omega]); unfold alM; (first | rw [iF_t (show y = 0 by assumption)] | (rw [iF_f (show ¬ y = 0 by assumption)]; first | rw [iF_t (show y = 1 by assumption)] | (rw [iF_f (show ¬ y = 1 by assumption)]; first | rw [iF_t (show y = 2 by assumption)] | (rw [iF_f (show ¬ y = 2 by assumption)]; first | rw [iF_t (show y = 3 by assumption)] | (rw [iF_f (show ¬ y = 3 by assumption)]; first | rw [iF_t (show y = 4 by assumption)] | (rw [iF_f (show ¬ y = 4 by assumption)])))))), rfl⟩, fun q => absurd rfl q⟩) (by decide) (by decide)
            · refine r_iload3 (pc := 188) C dX6_all_188 ?_
              refine r_goto (pc := 189) C (tgt := 226) dX6_all_189 (by decide) ?_
              exact r_iret C rfl dX6_all_226 (⟨fun _ => ⟨by (try rw [show k = 4 by omega]); unfold alM; (first | rw [iF_t (show y = 0 by assumption)] | (rw [iF_f (show ¬ y = 0 by assumption)]; first | rw [iF_t (show y = 1 by assumption)] | (rw [iF_f (show ¬ y = 1 by assumption)]; first | rw [iF_t (show y = 2 by assumption)] | (rw [iF_f (show ¬ y = 2 by assumption)]; first | rw [iF_t (show y = 3 by assumption)] | (rw [iF_f (show ¬ y = 3 by assumption)]; first | rw [iF_t (show y = 4 by assumption)] | (rw [iF_f (show ¬ y = 4 by assumption)])))))), rfl⟩, fun q => absurd rfl q⟩) (by decide) (by decide)
          · refine r_iload2 (pc := 179) C dX6_all_179 ?_
            refine r_goto (pc := 180) C (tgt := 226) dX6_all_180 (by decide) ?_
            exact r_iret C rfl dX6_all_226 (⟨fun _ => ⟨by (try rw [show k = 4 by omega]); unfold alM; (first | rw [iF_t (show y = 0 by assumption)] | (rw [iF_f (show ¬ y = 0 by assumption)]; first | rw [iF_t (show y = 1 by assumption)] | (rw [iF_f (show ¬ y = 1 by assumption)]; first | rw [iF_t (show y = 2 by assumption)] | (rw [iF_f (show ¬ y = 2 by assumption)]; first | rw [iF_t (show y = 3 by assumption)] | (rw [iF_f (show ¬ y = 3 by assumption)]; first | rw [iF_t (show y = 4 by assumption)] | (rw [iF_f (show ¬ y = 4 by assumption)])))))), rfl⟩, fun q => absurd rfl q⟩) (by decide) (by decide)
        · refine r_iload6 (pc := 157) C dX6_all_157 ?_
          refine r_aload0 (pc := 159) C dX6_all_159 ?_
          refine gX6_105 (pc := 160) C hT dX6_all_160 ?_
          refine r_iload7 (pc := 163) C dX6_all_163 ?_
          refine a437 (pc := 165) C hT rfl (by omega) dX6_all_165 ?_
          refine r_iadd (pc := 166) C dX6_all_166 ?_
          refine r_istore6 (pc := 167) C dX6_all_167 ?_
          refine r_iinc7 (pc := 169) C dX6_all_169 hk ?_
          refine r_goto (pc := 172) C (tgt := 151) dX6_all_172 (by decide) ?_
          exact ih (k + 1) (by omega) (by omega)
    have loop2 : ∀ (z k : Nat) (x7 : Option Value), k ≤ ng → ng < k + z → V D A 8 (T, ad, cO D ad (τ)) p l e (RM 7 0 0) s m args below meth c 0 0 (vx_MQ below (va_Qi (fun r S1 => ((0 : Int32) = 0 → r = alM τ nr ng y ∧ S1 = (T, ad, cO D ad (τ))) ∧ (¬ (0 : Int32) = 0 → r = 0 ∧ S1 = (T, ad, cO D ad (τ)))) (PoB D A) A) (XCs D (T, ad, cO D ad σ) A (nX)) args s 0 0 A) 81 [some (.ref (ad 400)), some (.int y), some (.int (sumF (τ 65) nr)), some (.int (ucM τ nr)), some (.int (sumF (τ 88) k)), some (.int (wrM τ k)), some (.int (nI k)), x7] [] := by
      intro z
      induction z with
      | zero => intro k x7 h1 h2; omega
      | succ z ih =>
        intro k x7 h1 h2
        have hk : nI k + 1 = nI (k + 1) := nI_1 k
        refine r_iload6 (pc := 81) C dX6_all_81 ?_
        refine r_aload0 (pc := 83) C dX6_all_83 ?_
        refine gX6_118 (pc := 84) C hT dX6_all_84 ?_
        rw [hm26]
        refine r_icmp_geN (pc := 87) C (tgt := 145) dX6_all_87 (by decide) (by omega) (by omega) (fun c_87 => ?_) (fun c_87 => ?_)
        · refine r_iconst (pc := 145) C (v := 0) dX6_all_145 (by decide) ?_
          refine r_istore6 (pc := 146) C dX6_all_146 ?_
          refine r_iconst (pc := 148) C (v := 0) dX6_all_148 (by decide) ?_
          refine r_istore7 (pc := 149) C dX6_all_149 ?_
          have hng2 : k = ng := by omega
          rw [hng2]
          exact loop3 5 0 (by omega) (by omega)
        · refine r_iload4 (pc := 90) C dX6_all_90 ?_
          refine r_aload0 (pc := 92) C dX6_all_92 ?_
          refine gX6_78 (pc := 93) C hT dX6_all_93 ?_
          refine r_iload6 (pc := 96) C dX6_all_96 ?_
          refine a428 (pc := 98) C hT rfl (by omega) dX6_all_98 ?_
          refine r_iadd (pc := 99) C dX6_all_99 ?_
          refine r_istore4 (pc := 100) C dX6_all_100 ?_
          refine r_iload5 (pc := 102) C dX6_all_102 ?_
          refine r_aload0 (pc := 104) C dX6_all_104 ?_
          refine gX6_90 (pc := 105) C hT dX6_all_105 ?_
          refine r_iload6 (pc := 108) C dX6_all_108 ?_
          refine a432 (pc := 110) C hT rfl (by omega) dX6_all_110 ?_
          refine r_iconst (pc := 111) C (v := (-1)) dX6_all_111 (by decide) ?_
          refine r_icmp_eq (pc := 112) C (tgt := 135) dX6_all_112 (by decide) (fun c_112 => ?_) (fun c_112 => ?_)
          · refine r_iconst (pc := 135) C (v := 0) dX6_all_135 (by decide) ?_
            refine r_iadd (pc := 136) C dX6_all_136 ?_
            try rw [Int32.add_zero]
            refine r_istore5 (pc := 137) C dX6_all_137 ?_
            refine r_iinc6 (pc := 139) C dX6_all_139 hk ?_
            refine r_goto (pc := 142) C (tgt := 81) dX6_all_142 (by decide) ?_
            have h3 := ih (k + 1) x7
            first
            | (have e1 : wrM τ (k + 1) = wrM τ k + 1 := iF_t (And.intro c_112 c_128)
               rw [e1] at h3; exact h3 (by omega) (by omega))
            | (have e1 : wrM τ (k + 1) = wrM τ k := iF_f (fun h => h.2 c_128)
               rw [e1] at h3; exact h3 (by omega) (by omega))
            | (have e1 : wrM τ (k + 1) = wrM τ k := iF_f (fun h => h.1 c_112)
               rw [e1] at h3; exact h3 (by omega) (by omega))
          · obtain ⟨q, hq, hqx⟩ := hro k (by omega)
            obtain ⟨a, ha, hax⟩ := hpa q hq
            refine r_aload0 (pc := 115) C dX6_all_115 ?_
            refine gX6_90 (pc := 116) C hT dX6_all_116 ?_
            refine r_iload6 (pc := 119) C dX6_all_119 ?_
            refine a432 (pc := 121) C hT rfl (by omega) dX6_all_121 ?_
            refine r_aload0 (pc := 122) C dX6_all_122 ?_
            refine r_iload6 (pc := 123) C dX6_all_123 ?_
            refine kX6_203 (pc := 125) C (c_X6_originOf l D _ _ _ hT (by omega) hqx (by omega) hax (by omega)) (hT.f (by decide)) rfl dX6_all_125 (Nat.le_of_ble_eq_true rfl) (by decide) ?_
            rintro _ _ ⟨rfl, rfl⟩
            refine r_icmp_eq (pc := 128) C (tgt := 135) dX6_all_128 (by decide) (fun c_128 => ?_) (fun c_128 => ?_)
            · refine r_iconst (pc := 135) C (v := 0) dX6_all_135 (by decide) ?_
              refine r_iadd (pc := 136) C dX6_all_136 ?_
              try rw [Int32.add_zero]
              refine r_istore5 (pc := 137) C dX6_all_137 ?_
              refine r_iinc6 (pc := 139) C dX6_all_139 hk ?_
              refine r_goto (pc := 142) C (tgt := 81) dX6_all_142 (by decide) ?_
              have h3 := ih (k + 1) x7
              first
              | (have e1 : wrM τ (k + 1) = wrM τ k + 1 := iF_t (And.intro c_112 c_128)
                 rw [e1] at h3; exact h3 (by omega) (by omega))
              | (have e1 : wrM τ (k + 1) = wrM τ k := iF_f (fun h => h.2 c_128)
                 rw [e1] at h3; exact h3 (by omega) (by omega))
              | (have e1 : wrM τ (k + 1) = wrM τ k := iF_f (fun h => h.1 c_112)
                 rw [e1] at h3; exact h3 (by omega) (by omega))
            · refine r_iconst (pc := 131) C (v := 1) dX6_all_131 (by decide) ?_
              refine r_goto (pc := 132) C (tgt := 136) dX6_all_132 (by decide) ?_
              refine r_iadd (pc := 136) C dX6_all_136 ?_
              try rw [Int32.add_zero]
              refine r_istore5 (pc := 137) C dX6_all_137 ?_
              refine r_iinc6 (pc := 139) C dX6_all_139 hk ?_
              refine r_goto (pc := 142) C (tgt := 81) dX6_all_142 (by decide) ?_
              have h3 := ih (k + 1) x7
              first
              | (have e1 : wrM τ (k + 1) = wrM τ k + 1 := iF_t (And.intro c_112 c_128)
                 rw [e1] at h3; exact h3 (by omega) (by omega))
              | (have e1 : wrM τ (k + 1) = wrM τ k := iF_f (fun h => h.2 c_128)
                 rw [e1] at h3; exact h3 (by omega) (by omega))
              | (have e1 : wrM τ (k + 1) = wrM τ k := iF_f (fun h => h.1 c_112)
                 rw [e1] at h3; exact h3 (by omega) (by omega))
    have loop1 : ∀ (z k : Nat) (x5 x6 x7 : Option Value), k ≤ nr → nr < k + z → V D A 8 (T, ad, cO D ad (τ)) p l e (RM 7 0 0) s m args below meth c 0 0 (vx_MQ below (va_Qi (fun r S1 => ((0 : Int32) = 0 → r = alM τ nr ng y ∧ S1 = (T, ad, cO D ad (τ))) ∧ (¬ (0 : Int32) = 0 → r = 0 ∧ S1 = (T, ad, cO D ad (τ)))) (PoB D A) A) (XCs D (T, ad, cO D ad σ) A (nX)) args s 0 0 A) 22 [some (.ref (ad 400)), some (.int y), some (.int (sumF (τ 65) k)), some (.int (ucM τ k)), some (.int (nI k)), x5, x6, x7] [] := by
      intro z
      induction z with
      | zero => intro k x5 x6 x7 h1 h2; omega
      | succ z ih =>
        intro k x5 x6 x7 h1 h2
        have hk : nI k + 1 = nI (k + 1) := nI_1 k
        refine r_iload4 (pc := 22) C dX6_all_22 ?_
        refine r_aload0 (pc := 24) C dX6_all_24 ?_
        refine gX6_111 (pc := 25) C hT dX6_all_25 ?_
        rw [hm3]
        refine r_icmp_geN (pc := 28) C (tgt := 72) dX6_all_28 (by decide) (by omega) (by omega) (fun c_28 => ?_) (fun c_28 => ?_)
        · refine r_iconst (pc := 72) C (v := 0) dX6_all_72 (by decide) ?_
          refine r_istore4 (pc := 73) C dX6_all_73 ?_
          refine r_iconst (pc := 75) C (v := 0) dX6_all_75 (by decide) ?_
          refine r_istore5 (pc := 76) C dX6_all_76 ?_
          refine r_iconst (pc := 78) C (v := 0) dX6_all_78 (by decide) ?_
          refine r_istore6 (pc := 79) C dX6_all_79 ?_
          have hnr2 : k = nr := by omega
          rw [hnr2]
          exact loop2 (ng + 1) 0 _ (by omega) (by omega)
        · refine r_iload2 (pc := 31) C dX6_all_31 ?_
          refine r_aload0 (pc := 32) C dX6_all_32 ?_
          refine gX6_16 (pc := 33) C hT dX6_all_33 ?_
          refine r_iload4 (pc := 36) C dX6_all_36 ?_
          refine a405 (pc := 38) C hT rfl (by omega) dX6_all_38 ?_
          refine r_iadd (pc := 39) C dX6_all_39 ?_
          refine r_istore2 (pc := 40) C dX6_all_40 ?_
          refine r_iload3 (pc := 41) C dX6_all_41 ?_
          refine r_aload0 (pc := 42) C dX6_all_42 ?_
          refine gX6_28 (pc := 43) C hT dX6_all_43 ?_
          refine r_iload4 (pc := 46) C dX6_all_46 ?_
          refine a409 (pc := 48) C hT rfl (by omega) dX6_all_48 ?_
          refine r_iconst (pc := 49) C (v := 3) dX6_all_49 (by decide) ?_
          refine r_icmp_ne (pc := 50) C (tgt := 57) dX6_all_50 (by decide) (fun c_50 => ?_) (fun c_50 => ?_)
          · refine r_aload0 (pc := 57) C dX6_all_57 ?_
            refine gX6_16 (pc := 58) C hT dX6_all_58 ?_
            refine r_iload4 (pc := 61) C dX6_all_61 ?_
            refine a405 (pc := 63) C hT rfl (by omega) dX6_all_63 ?_
            refine r_iadd (pc := 64) C dX6_all_64 ?_
            try rw [Int32.add_zero]
            refine r_istore3 (pc := 65) C dX6_all_65 ?_
            refine r_iinc4 (pc := 66) C dX6_all_66 hk ?_
            refine r_goto (pc := 69) C (tgt := 22) dX6_all_69 (by decide) ?_
            have h3 := ih (k + 1) x5 x6 x7
            first
            | (have e1 : ucM τ (k + 1) = ucM τ k + τ 65 k := iF_f c_50
               rw [e1] at h3; exact h3 (by omega) (by omega))
            | (have e1 : ucM τ (k + 1) = ucM τ k := iF_t c_50
               rw [e1] at h3; exact h3 (by omega) (by omega))
          · refine r_iconst (pc := 53) C (v := 0) dX6_all_53 (by decide) ?_
            refine r_goto (pc := 54) C (tgt := 64) dX6_all_54 (by decide) ?_
            refine r_iadd (pc := 64) C dX6_all_64 ?_
            try rw [Int32.add_zero]
            refine r_istore3 (pc := 65) C dX6_all_65 ?_
            refine r_iinc4 (pc := 66) C dX6_all_66 hk ?_
            refine r_goto (pc := 69) C (tgt := 22) dX6_all_69 (by decide) ?_
            have h3 := ih (k + 1) x5 x6 x7
            first
            | (have e1 : ucM τ (k + 1) = ucM τ k + τ 65 k := iF_f c_50
               rw [e1] at h3; exact h3 (by omega) (by omega))
            | (have e1 : ucM τ (k + 1) = ucM τ k := iF_t c_50
               rw [e1] at h3; exact h3 (by omega) (by omega))
    exact loop1 (nr + 1) 0 _ _ _ (by omega) (by omega)
  · have hno : ¬ (cd1 (0 ≤ y ∧ y ≤ 5)) = 0 := cd1_f (by assumption)
    refine r_iconst (pc := 13) C (v := 0) dX6_all_13 (by decide) ?_
    exact r_iret C rfl dX6_all_14 (by first | exact ⟨fun q => absurd q hno, fun _ => ⟨rfl, rfl⟩⟩ | exact ⟨fun _ => ⟨rfl, rfl⟩, fun q => absurd rfl q⟩) (by decide) (by decide)


theorem upR_0 {σ : Mm} {r : Nat} {v : Int32} : upR σ r (fillF (σ r) v 0) = σ := by
  funext q
  by_cases h : q = r
  · subst h
    rw [upR_eq]
    funext j
    exact if_neg (by omega)
  · rw [upR_ne h]
theorem upR_s {σ : Mm} {r : Nat} {h : Nat → Int32} {v : Int32} {k : Nat} : up (upR σ r (fillF h v k)) r k v = upR σ r (fillF h v (k + 1)) := by
  funext q j
  by_cases e : q = r
  · subst e
    by_cases f : j = k
    · subst f
      rw [up_self, upR_eq]
      exact (if_pos (by omega)).symm
    · rw [up_eq]
      unfold upd
      rw [if_neg f, upR_eq, upR_eq]
      unfold fillF
      by_cases g : j < k
      · rw [if_pos g, if_pos (by omega)]
      · rw [if_neg g, if_neg (by omega)]
  · rw [up_ne e, upR_ne e, upR_ne e]
noncomputable def siM (σ : Mm) (i : Nat) (y : Int32) : Int32 := iF (y = 0) (σ 69 i) (iF (y = 1) (qualM σ i) (iF (y = 2) (bI (dblM σ i)) (iF (y = 3) (σ 70 i) (iF (y = 4) (σ 71 i) (iF (y = 5) (σ 64 i) (σ 72 i))))))
noncomputable def poM (σ : Mm) (i : Nat) (y : Int32) : Int32 := iF (y = 0) (σ 87 i) (iF (y = 1) (σ 88 i) (iF (y = 2) (σ 89 i) (iF (y = 3) (σ 90 i) (iF (y = 4) (σ 91 i) (iF (y = 5) (gradeM σ i) (iF (y = 6) (gpS (σ 88 i) (gradeM σ i)) (iF (y = 7) (σ 92 i) (orgM σ i))))))))
set_option maxRecDepth 100000 in
set_option maxHeartbeats 4000000 in
theorem c_X6_price (l : Launch) (D : Gt) (T : List Nat) (ad : Nat → Nat) (σ : Mm) {nr ng : Nat} (hT : TG nr ng T) {np nb : Nat} (hM : ML nr ng np nb σ) (x y v : Int32) : KI D l yX6_price (uws yX6_price cX6_price 5 (some .int)) (RM 7 0 0) [.ref (ad 400), .int x, .int y, .int v] (T, ad, cO D ad σ) (fun r S1 => ((cd2 ((0 ≤ x ∧ x ≤ 3) ∧ (0 ≤ y ∧ y ≤ 18)) (1 ≤ v ∧ v ≤ 99999)) = 0 → r = (up σ 60 0 0) 77 (19 * x.toNatClampNeg + y.toNatClampNeg) ∧ S1 = (T, ad, cO D ad (up (up σ 60 0 0) 77 (19 * x.toNatClampNeg + y.toNatClampNeg) v))) ∧ (¬ (cd2 ((0 ≤ x ∧ x ≤ 3) ∧ (0 ≤ y ∧ y ≤ 18)) (1 ≤ v ∧ v ≤ 99999)) = 0 → r = 0 ∧ S1 = (T, ad, cO D ad (up σ 60 0 (cd2 ((0 ≤ x ∧ x ≤ 3) ∧ (0 ≤ y ∧ y ≤ 18)) (1 ≤ v ∧ v ≤ 99999)))))) (nX) 0 0 := by
  refine KI_of (own := RX6) (L0 := [some (.ref (ad 400)), some (.int x), some (.int y), some (.int v), none]) (by decide +kernel) rfl (catc rfl (catc rfl (catc rfl (catc rfl cat0)))) (Nat.le_of_ble_eq_true rfl) rfl ?_
  intro p e s m args below meth c A hnm C
  have hS := hM
  obtain ⟨hm1, hm3, hm26, hm18, hnp, hnr, hng, hnb5, hb, hsc, hlc, hpa, hro, hof, hte⟩ := hM
  refine r_aload0 (pc := 0) C dX6_price_0 ?_
  refine r_iload1 (pc := 1) C dX6_price_1 ?_
  refine r_iconst (pc := 2) C (v := 0) dX6_price_2 (by decide) ?_
  refine r_iconst (pc := 3) C (v := 3) dX6_price_3 (by decide) ?_
  refine kX6_114 (pc := 4) C (c_X6_in l D _ _ _ _) dX6_price_4 (Nat.le_of_ble_eq_true rfl) (by decide) ?_
  rintro _ _ ⟨rfl, rfl⟩
  refine r_if_eq_b (pc := 7) C (tgt := 24) dX6_price_7 (by decide) (fun c_7 => ?_) (fun c_7 => ?_)
  · refine r_iconst (pc := 24) C (v := 0) dX6_price_24 (by decide) ?_
    refine r_iload3 (pc := 25) C dX6_price_25 ?_
    refine r_iconst (pc := 26) C (v := 1) dX6_price_26 (by decide) ?_
    refine cX6_143 (pc := 27) C dX6_price_27 ?_
    refine kX6_114 (pc := 29) C (c_X6_in l D _ _ _ _) dX6_price_29 (Nat.le_of_ble_eq_true rfl) (by decide) ?_
    rintro _ _ ⟨rfl, rfl⟩
    refine kX6_124 (pc := 32) C (ask2 l D _ _ _ hT ((0 ≤ x ∧ x ≤ 3) ∧ (0 ≤ y ∧ y ≤ 18)) (1 ≤ v ∧ v ≤ 99999) (by first | rfl | exact (bI_t (by with_reducible assumption)).symm | exact (bI_f (by with_reducible assumption)).symm | (refine (bI_t ?_).symm; and_intros <;> with_reducible assumption) | (refine (bI_f ?_).symm; rintro ⟨h1, h2⟩; first | exact absurd h1 (by with_reducible assumption) | exact absurd h2 (by with_reducible assumption)) | (refine (bI_f ?_).symm; rintro ⟨h1, h2, h3⟩; first | exact absurd h2 (by with_reducible assumption) | exact absurd h3 (by with_reducible assumption)) | exact bI_c (by grind) | exact (bI_t (by grind)).symm | exact (bI_f (by grind)).symm) (fun hP0 => by first | rfl | exact absurd hP0 (by with_reducible assumption) | (obtain ⟨hp1, hp2⟩ := hP0; first | exact absurd hp1 (by with_reducible assumption) | exact absurd hp2 (by with_reducible assumption)) | exact (bI_t (by with_reducible assumption)).symm | exact (bI_f (by with_reducible assumption)).symm | (refine (bI_t ?_).symm; and_intros <;> with_reducible assumption) | (refine (bI_f ?_).symm; rintro ⟨h1, h2⟩; first | exact absurd h1 (by with_reducible assumption) | exact absurd h2 (by with_reducible assumption)) | (refine (bI_f ?_).symm; rintro ⟨h1, h2, h3⟩; first | exact absurd h2 (by with_reducible assumption) | exact absurd h3 (by with_reducible assumption)) | exact bI_c (by grind) | exact (bI_t (by grind)).symm | exact (bI_f (by grind)).symm)) (hT.f (by decide)) rfl dX6_price_32 (Nat.le_of_ble_eq_true rfl) (by decide) ?_
    rintro _ _ ⟨rfl, rfl⟩
    refine r_if_ne_b (pc := 35) C (tgt := 40) dX6_price_35 (by decide) (fun c_35 => ?_) (fun c_35 => ?_)
    · have hok : (cd2 ((0 ≤ x ∧ x ≤ 3) ∧ (0 ≤ y ∧ y ≤ 18)) (1 ≤ v ∧ v ≤ 99999)) = 0 := cd2_t c_35
      rw [hok]
      obtain ⟨τ, hτ⟩ : ∃ τ, up σ 60 0 0 = τ := ⟨_, rfl⟩
      rw [hτ]
      obtain ⟨hm1, hm3, hm26, hm18, hnp, hnr, hng, hnb5, hb, hsc, hlc, hpa, hro, hof, hte⟩ := (hτ ▸ ML_up 0 hS : ML nr ng np nb τ)
      obtain ⟨hP, hQ⟩ := c_35
      obtain ⟨hP1, hP2⟩ := hP
      obtain ⟨j, hj, rfl⟩ := ul_s (n := 3) (by omega) hP1
      rw [nI_clamp (by omega)]
      obtain ⟨i, hi, rfl⟩ := ul_s (n := 18) (by omega) hP2
      rw [nI_clamp (by omega)]
      refine r_aload0 (pc := 40) C dX6_price_40 ?_
      refine gX6_52 (pc := 41) C hT dX6_price_41 ?_
      refine r_bipush (pc := 44) C (v := 19) dX6_price_44 (by decide) ?_
      refine r_iload1 (pc := 46) C dX6_price_46 ?_
      refine r_imul (pc := 47) C dX6_price_47 ?_
      refine r_iload2 (pc := 48) C dX6_price_48 ?_
      refine r_iadd (pc := 49) C dX6_price_49 ?_
      refine a417 (pc := 50) C hT (show (19 : Int32) * nI j + nI i = nI (19 * j + i) by rw [show (19 : Int32) * nI j = nI (19 * j) from pk_mul 19 j]; exact nI_add _ i) (by omega) dX6_price_50 ?_
      refine r_istore4 (pc := 51) C dX6_price_51 ?_
      refine r_aload0 (pc := 53) C dX6_price_53 ?_
      refine gX6_52 (pc := 54) C hT dX6_price_54 ?_
      refine r_bipush (pc := 57) C (v := 19) dX6_price_57 (by decide) ?_
      refine r_iload1 (pc := 59) C dX6_price_59 ?_
      refine r_imul (pc := 60) C dX6_price_60 ?_
      refine r_iload2 (pc := 61) C dX6_price_61 ?_
      refine r_iadd (pc := 62) C dX6_price_62 ?_
      refine r_iload3 (pc := 63) C dX6_price_63 ?_
      refine b417 (pc := 64) C hT (show (19 : Int32) * nI j + nI i = nI (19 * j + i) by rw [show (19 : Int32) * nI j = nI (19 * j) from pk_mul 19 j]; exact nI_add _ i) (by omega) dX6_price_64 ?_
      refine r_iload4 (pc := 65) C dX6_price_65 ?_
      exact r_iret C rfl dX6_price_67 (by first | exact ⟨fun q => absurd q hno, fun _ => ⟨rfl, rfl⟩⟩ | exact ⟨fun _ => ⟨rfl, rfl⟩, fun q => absurd rfl q⟩) (by decide) (by decide)
    · have hno : ¬ (cd2 ((0 ≤ x ∧ x ≤ 3) ∧ (0 ≤ y ∧ y ≤ 18)) (1 ≤ v ∧ v ≤ 99999)) = 0 := cd2_f (by assumption)
      refine r_iconst (pc := 38) C (v := 0) dX6_price_38 (by decide) ?_
      exact r_iret C rfl dX6_price_39 (by first | exact ⟨fun q => absurd q hno, fun _ => ⟨rfl, rfl⟩⟩ | exact ⟨fun _ => ⟨rfl, rfl⟩, fun q => absurd rfl q⟩) (by decide) (by decide)
  · refine r_iload2 (pc := 10) C dX6_price_10 ?_
    refine r_iconst (pc := 11) C (v := 0) dX6_price_11 (by decide) ?_
    refine r_bipush (pc := 12) C (v := 18) dX6_price_12 (by decide) ?_
    refine kX6_114 (pc := 14) C (c_X6_in l D _ _ _ _) dX6_price_14 (Nat.le_of_ble_eq_true rfl) (by decide) ?_
    rintro _ _ ⟨rfl, rfl⟩
    refine r_if_eq_b (pc := 17) C (tgt := 24) dX6_price_17 (by decide) (fun c_17 => ?_) (fun c_17 => ?_)
    · refine r_iconst (pc := 24) C (v := 0) dX6_price_24 (by decide) ?_
      refine r_iload3 (pc := 25) C dX6_price_25 ?_
      refine r_iconst (pc := 26) C (v := 1) dX6_price_26 (by decide) ?_
      refine cX6_143 (pc := 27) C dX6_price_27 ?_
      refine kX6_114 (pc := 29) C (c_X6_in l D _ _ _ _) dX6_price_29 (Nat.le_of_ble_eq_true rfl) (by decide) ?_
      rintro _ _ ⟨rfl, rfl⟩
      refine kX6_124 (pc := 32) C (ask2 l D _ _ _ hT ((0 ≤ x ∧ x ≤ 3) ∧ (0 ≤ y ∧ y ≤ 18)) (1 ≤ v ∧ v ≤ 99999) (by first | rfl | exact (bI_t (by with_reducible assumption)).symm | exact (bI_f (by with_reducible assumption)).symm | (refine (bI_t ?_).symm; and_intros <;> with_reducible assumption) | (refine (bI_f ?_).symm; rintro ⟨h1, h2⟩; first | exact absurd h1 (by with_reducible assumption) | exact absurd h2 (by with_reducible assumption)) | (refine (bI_f ?_).symm; rintro ⟨h1, h2, h3⟩; first | exact absurd h2 (by with_reducible assumption) | exact absurd h3 (by with_reducible assumption)) | exact bI_c (by grind) | exact (bI_t (by grind)).symm | exact (bI_f (by grind)).symm) (fun hP0 => by first | rfl | exact absurd hP0 (by with_reducible assumption) | (obtain ⟨hp1, hp2⟩ := hP0; first | exact absurd hp1 (by with_reducible assumption) | exact absurd hp2 (by with_reducible assumption)) | exact (bI_t (by with_reducible assumption)).symm | exact (bI_f (by with_reducible assumption)).symm | (refine (bI_t ?_).symm; and_intros <;> with_reducible assumption) | (refine (bI_f ?_).symm; rintro ⟨h1, h2⟩; first | exact absurd h1 (by with_reducible assumption) | exact absurd h2 (by with_reducible assumption)) | (refine (bI_f ?_).symm; rintro ⟨h1, h2, h3⟩; first | exact absurd h2 (by with_reducible assumption) | exact absurd h3 (by with_reducible assumption)) | exact bI_c (by grind) | exact (bI_t (by grind)).symm | exact (bI_f (by grind)).symm)) (hT.f (by decide)) rfl dX6_price_32 (Nat.le_of_ble_eq_true rfl) (by decide) ?_
      rintro _ _ ⟨rfl, rfl⟩
      refine r_if_ne_b (pc := 35) C (tgt := 40) dX6_price_35 (by decide) (fun c_35 => ?_) (fun c_35 => ?_)
      · have hok : (cd2 ((0 ≤ x ∧ x ≤ 3) ∧ (0 ≤ y ∧ y ≤ 18)) (1 ≤ v ∧ v ≤ 99999)) = 0 := cd2_t c_35
        rw [hok]
        obtain ⟨τ, hτ⟩ : ∃ τ, up σ 60 0 0 = τ := ⟨_, rfl⟩
        rw [hτ]
        obtain ⟨hm1, hm3, hm26, hm18, hnp, hnr, hng, hnb5, hb, hsc, hlc, hpa, hro, hof, hte⟩ := (hτ ▸ ML_up 0 hS : ML nr ng np nb τ)
        obtain ⟨hP, hQ⟩ := c_35
        obtain ⟨hP1, hP2⟩ := hP
        obtain ⟨j, hj, rfl⟩ := ul_s (n := 3) (by omega) hP1
        rw [nI_clamp (by omega)]
        obtain ⟨i, hi, rfl⟩ := ul_s (n := 18) (by omega) hP2
        rw [nI_clamp (by omega)]
        refine r_aload0 (pc := 40) C dX6_price_40 ?_
        refine gX6_52 (pc := 41) C hT dX6_price_41 ?_
        refine r_bipush (pc := 44) C (v := 19) dX6_price_44 (by decide) ?_
        refine r_iload1 (pc := 46) C dX6_price_46 ?_
        refine r_imul (pc := 47) C dX6_price_47 ?_
        refine r_iload2 (pc := 48) C dX6_price_48 ?_
        refine r_iadd (pc := 49) C dX6_price_49 ?_
        refine a417 (pc := 50) C hT (show (19 : Int32) * nI j + nI i = nI (19 * j + i) by rw [show (19 : Int32) * nI j = nI (19 * j) from pk_mul 19 j]; exact nI_add _ i) (by omega) dX6_price_50 ?_
        refine r_istore4 (pc := 51) C dX6_price_51 ?_
        refine r_aload0 (pc := 53) C dX6_price_53 ?_
        refine gX6_52 (pc := 54) C hT dX6_price_54 ?_
        refine r_bipush (pc := 57) C (v := 19) dX6_price_57 (by decide) ?_
        refine r_iload1 (pc := 59) C dX6_price_59 ?_
        refine r_imul (pc := 60) C dX6_price_60 ?_
        refine r_iload2 (pc := 61) C dX6_price_61 ?_
        refine r_iadd (pc := 62) C dX6_price_62 ?_
        refine r_iload3 (pc := 63) C dX6_price_63 ?_
        refine b417 (pc := 64) C hT (show (19 : Int32) * nI j + nI i = nI (19 * j + i) by rw [show (19 : Int32) * nI j = nI (19 * j) from pk_mul 19 j]; exact nI_add _ i) (by omega) dX6_price_64 ?_
        refine r_iload4 (pc := 65) C dX6_price_65 ?_
        exact r_iret C rfl dX6_price_67 (by first | exact ⟨fun q => absurd q hno, fun _ => ⟨rfl, rfl⟩⟩ | exact ⟨fun _ => ⟨rfl, rfl⟩, fun q => absurd rfl q⟩) (by decide) (by decide)
      · have hno : ¬ (cd2 ((0 ≤ x ∧ x ≤ 3) ∧ (0 ≤ y ∧ y ≤ 18)) (1 ≤ v ∧ v ≤ 99999)) = 0 := cd2_f (by assumption)
        refine r_iconst (pc := 38) C (v := 0) dX6_price_38 (by decide) ?_
        exact r_iret C rfl dX6_price_39 (by first | exact ⟨fun q => absurd q hno, fun _ => ⟨rfl, rfl⟩⟩ | exact ⟨fun _ => ⟨rfl, rfl⟩, fun q => absurd rfl q⟩) (by decide) (by decide)
    · refine r_iconst (pc := 20) C (v := 1) dX6_price_20 (by decide) ?_
      refine r_goto (pc := 21) C (tgt := 25) dX6_price_21 (by decide) ?_
      refine r_iload3 (pc := 25) C dX6_price_25 ?_
      refine r_iconst (pc := 26) C (v := 1) dX6_price_26 (by decide) ?_
      refine cX6_143 (pc := 27) C dX6_price_27 ?_
      refine kX6_114 (pc := 29) C (c_X6_in l D _ _ _ _) dX6_price_29 (Nat.le_of_ble_eq_true rfl) (by decide) ?_
      rintro _ _ ⟨rfl, rfl⟩
      refine kX6_124 (pc := 32) C (ask2 l D _ _ _ hT ((0 ≤ x ∧ x ≤ 3) ∧ (0 ≤ y ∧ y ≤ 18)) (1 ≤ v ∧ v ≤ 99999) (by first | rfl | exact (bI_t (by with_reducible assumption)).symm | exact (bI_f (by with_reducible assumption)).symm | (refine (bI_t ?_).symm; and_intros <;> with_reducible assumption) | (refine (bI_f ?_).symm; rintro ⟨h1, h2⟩; first | exact absurd h1 (by with_reducible assumption) | exact absurd h2 (by with_reducible assumption)) | (refine (bI_f ?_).symm; rintro ⟨h1, h2, h3⟩; first | exact absurd h2 (by with_reducible assumption) | exact absurd h3 (by with_reducible assumption)) | exact bI_c (by grind) | exact (bI_t (by grind)).symm | exact (bI_f (by grind)).symm) (fun hP0 => by first | rfl | exact absurd hP0 (by with_reducible assumption) | (obtain ⟨hp1, hp2⟩ := hP0; first | exact absurd hp1 (by with_reducible assumption) | exact absurd hp2 (by with_reducible assumption)) | exact (bI_t (by with_reducible assumption)).symm | exact (bI_f (by with_reducible assumption)).symm | (refine (bI_t ?_).symm; and_intros <;> with_reducible assumption) | (refine (bI_f ?_).symm; rintro ⟨h1, h2⟩; first | exact absurd h1 (by with_reducible assumption) | exact absurd h2 (by with_reducible assumption)) | (refine (bI_f ?_).symm; rintro ⟨h1, h2, h3⟩; first | exact absurd h2 (by with_reducible assumption) | exact absurd h3 (by with_reducible assumption)) | exact bI_c (by grind) | exact (bI_t (by grind)).symm | exact (bI_f (by grind)).symm)) (hT.f (by decide)) rfl dX6_price_32 (Nat.le_of_ble_eq_true rfl) (by decide) ?_
      rintro _ _ ⟨rfl, rfl⟩
      refine r_if_ne_b (pc := 35) C (tgt := 40) dX6_price_35 (by decide) (fun c_35 => ?_) (fun c_35 => ?_)
      · have hok : (cd2 ((0 ≤ x ∧ x ≤ 3) ∧ (0 ≤ y ∧ y ≤ 18)) (1 ≤ v ∧ v ≤ 99999)) = 0 := cd2_t c_35
        rw [hok]
        obtain ⟨τ, hτ⟩ : ∃ τ, up σ 60 0 0 = τ := ⟨_, rfl⟩
        rw [hτ]
        obtain ⟨hm1, hm3, hm26, hm18, hnp, hnr, hng, hnb5, hb, hsc, hlc, hpa, hro, hof, hte⟩ := (hτ ▸ ML_up 0 hS : ML nr ng np nb τ)
        obtain ⟨hP, hQ⟩ := c_35
        obtain ⟨hP1, hP2⟩ := hP
        obtain ⟨j, hj, rfl⟩ := ul_s (n := 3) (by omega) hP1
        rw [nI_clamp (by omega)]
        obtain ⟨i, hi, rfl⟩ := ul_s (n := 18) (by omega) hP2
        rw [nI_clamp (by omega)]
        refine r_aload0 (pc := 40) C dX6_price_40 ?_
        refine gX6_52 (pc := 41) C hT dX6_price_41 ?_
        refine r_bipush (pc := 44) C (v := 19) dX6_price_44 (by decide) ?_
        refine r_iload1 (pc := 46) C dX6_price_46 ?_
        refine r_imul (pc := 47) C dX6_price_47 ?_
        refine r_iload2 (pc := 48) C dX6_price_48 ?_
        refine r_iadd (pc := 49) C dX6_price_49 ?_
        refine a417 (pc := 50) C hT (show (19 : Int32) * nI j + nI i = nI (19 * j + i) by rw [show (19 : Int32) * nI j = nI (19 * j) from pk_mul 19 j]; exact nI_add _ i) (by omega) dX6_price_50 ?_
        refine r_istore4 (pc := 51) C dX6_price_51 ?_
        refine r_aload0 (pc := 53) C dX6_price_53 ?_
        refine gX6_52 (pc := 54) C hT dX6_price_54 ?_
        refine r_bipush (pc := 57) C (v := 19) dX6_price_57 (by decide) ?_
        refine r_iload1 (pc := 59) C dX6_price_59 ?_
        refine r_imul (pc := 60) C dX6_price_60 ?_
        refine r_iload2 (pc := 61) C dX6_price_61 ?_
        refine r_iadd (pc := 62) C dX6_price_62 ?_
        refine r_iload3 (pc := 63) C dX6_price_63 ?_
        refine b417 (pc := 64) C hT (show (19 : Int32) * nI j + nI i = nI (19 * j + i) by rw [show (19 : Int32) * nI j = nI (19 * j) from pk_mul 19 j]; exact nI_add _ i) (by omega) dX6_price_64 ?_
        refine r_iload4 (pc := 65) C dX6_price_65 ?_
        exact r_iret C rfl dX6_price_67 (by first | exact ⟨fun q => absurd q hno, fun _ => ⟨rfl, rfl⟩⟩ | exact ⟨fun _ => ⟨rfl, rfl⟩, fun q => absurd rfl q⟩) (by decide) (by decide)
      · have hno : ¬ (cd2 ((0 ≤ x ∧ x ≤ 3) ∧ (0 ≤ y ∧ y ≤ 18)) (1 ≤ v ∧ v ≤ 99999)) = 0 := cd2_f (by assumption)
        refine r_iconst (pc := 38) C (v := 0) dX6_price_38 (by decide) ?_
        exact r_iret C rfl dX6_price_39 (by first | exact ⟨fun q => absurd q hno, fun _ => ⟨rfl, rfl⟩⟩ | exact ⟨fun _ => ⟨rfl, rfl⟩, fun q => absurd rfl q⟩) (by decide) (by decide)

set_option maxRecDepth 100000 in
set_option maxHeartbeats 4000000 in
theorem c_X6_bid (l : Launch) (D : Gt) (T : List Nat) (ad : Nat → Nat) (σ : Mm) {nr ng : Nat} (hT : TG nr ng T) {np nb : Nat} (hM : ML nr ng np nb σ) (x y : Int32) : KI D l yX6_bid (uws yX6_bid cX6_bid 4 (some .int)) (RM 7 0 0) [.ref (ad 400), .int x, .int y] (T, ad, cO D ad σ) (fun r S1 => ((cd3 (0 ≤ x ∧ x < 5) (1 ≤ y ∧ y ≤ 999999) (¬ σ 60 23 = -1)) = 0 → r = (up σ 60 0 0) 85 x.toNatClampNeg ∧ S1 = (T, ad, cO D ad (up (up σ 60 0 0) 85 x.toNatClampNeg y))) ∧ (¬ (cd3 (0 ≤ x ∧ x < 5) (1 ≤ y ∧ y ≤ 999999) (¬ σ 60 23 = -1)) = 0 → r = 0 ∧ S1 = (T, ad, cO D ad (up σ 60 0 (cd3 (0 ≤ x ∧ x < 5) (1 ≤ y ∧ y ≤ 999999) (¬ σ 60 23 = -1)))))) (nX) 0 0 := by
  refine KI_of (own := RX6) (L0 := [some (.ref (ad 400)), some (.int x), some (.int y), none]) (by decide +kernel) rfl (catc rfl (catc rfl (catc rfl cat0))) (Nat.le_of_ble_eq_true rfl) rfl ?_
  intro p e s m args below meth c A hnm C
  have hS := hM
  obtain ⟨hm1, hm3, hm26, hm18, hnp, hnr, hng, hnb5, hb, hsc, hlc, hpa, hro, hof, hte⟩ := hM
  refine r_aload0 (pc := 0) C dX6_bid_0 ?_
  refine r_iload1 (pc := 1) C dX6_bid_1 ?_
  refine kX6_174 (pc := 2) C (c_X6_isBuyer l D _ _) dX6_bid_2 (Nat.le_of_ble_eq_true rfl) (by decide) ?_
  rintro _ _ ⟨rfl, rfl⟩
  refine r_iload2 (pc := 5) C dX6_bid_5 ?_
  refine r_iconst (pc := 6) C (v := 1) dX6_bid_6 (by decide) ?_
  refine cX6_177 (pc := 7) C dX6_bid_7 ?_
  refine kX6_114 (pc := 9) C (c_X6_in l D _ _ _ _) dX6_bid_9 (Nat.le_of_ble_eq_true rfl) (by decide) ?_
  rintro _ _ ⟨rfl, rfl⟩
  refine r_aload0 (pc := 12) C dX6_bid_12 ?_
  refine gX6_68 (pc := 13) C hT dX6_bid_13 ?_
  refine r_iconst (pc := 16) C (v := (-1)) dX6_bid_16 (by decide) ?_
  refine r_icmp_eq (pc := 17) C (tgt := 24) dX6_bid_17 (by decide) (fun c_17 => ?_) (fun c_17 => ?_)
  · refine r_iconst (pc := 24) C (v := 0) dX6_bid_24 (by decide) ?_
    refine kX6_128 (pc := 25) C (ask3 l D _ _ _ hT (0 ≤ x ∧ x < 5) (1 ≤ y ∧ y ≤ 999999) (¬ σ 60 23 = -1) (by first | rfl | exact (bI_t (by with_reducible assumption)).symm | exact (bI_f (by with_reducible assumption)).symm | (refine (bI_t ?_).symm; and_intros <;> with_reducible assumption) | (refine (bI_f ?_).symm; rintro ⟨h1, h2⟩; first | exact absurd h1 (by with_reducible assumption) | exact absurd h2 (by with_reducible assumption)) | (refine (bI_f ?_).symm; rintro ⟨h1, h2, h3⟩; first | exact absurd h2 (by with_reducible assumption) | exact absurd h3 (by with_reducible assumption)) | exact bI_c (by grind) | exact (bI_t (by grind)).symm | exact (bI_f (by grind)).symm) (fun hP0 => by first | rfl | exact absurd hP0 (by with_reducible assumption) | (obtain ⟨hp1, hp2⟩ := hP0; first | exact absurd hp1 (by with_reducible assumption) | exact absurd hp2 (by with_reducible assumption)) | exact (bI_t (by with_reducible assumption)).symm | exact (bI_f (by with_reducible assumption)).symm | (refine (bI_t ?_).symm; and_intros <;> with_reducible assumption) | (refine (bI_f ?_).symm; rintro ⟨h1, h2⟩; first | exact absurd h1 (by with_reducible assumption) | exact absurd h2 (by with_reducible assumption)) | (refine (bI_f ?_).symm; rintro ⟨h1, h2, h3⟩; first | exact absurd h2 (by with_reducible assumption) | exact absurd h3 (by with_reducible assumption)) | exact bI_c (by grind) | exact (bI_t (by grind)).symm | exact (bI_f (by grind)).symm) (fun hP0 hP1 => by first | rfl | exact absurd hP0 (by with_reducible assumption) | (obtain ⟨hp1, hp2⟩ := hP0; first | exact absurd hp1 (by with_reducible assumption) | exact absurd hp2 (by with_reducible assumption)) | exact (bI_t (by with_reducible assumption)).symm | exact (bI_f (by with_reducible assumption)).symm | (refine (bI_t ?_).symm; and_intros <;> with_reducible assumption) | (refine (bI_f ?_).symm; rintro ⟨h1, h2⟩; first | exact absurd h1 (by with_reducible assumption) | exact absurd h2 (by with_reducible assumption)) | (refine (bI_f ?_).symm; rintro ⟨h1, h2, h3⟩; first | exact absurd h2 (by with_reducible assumption) | exact absurd h3 (by with_reducible assumption)) | exact bI_c (by grind) | exact (bI_t (by grind)).symm | exact (bI_f (by grind)).symm)) (hT.f (by decide)) rfl dX6_bid_25 (Nat.le_of_ble_eq_true rfl) (by decide) ?_
    rintro _ _ ⟨rfl, rfl⟩
    refine r_if_ne_b (pc := 28) C (tgt := 33) dX6_bid_28 (by decide) (fun c_28 => ?_) (fun c_28 => ?_)
    · have hok : (cd3 (0 ≤ x ∧ x < 5) (1 ≤ y ∧ y ≤ 999999) (¬ σ 60 23 = -1)) = 0 := cd3_t c_28
      rw [hok]
      obtain ⟨τ, hτ⟩ : ∃ τ, up σ 60 0 0 = τ := ⟨_, rfl⟩
      rw [hτ]
      obtain ⟨hm1, hm3, hm26, hm18, hnp, hnr, hng, hnb5, hb, hsc, hlc, hpa, hro, hof, hte⟩ := (hτ ▸ ML_up 0 hS : ML nr ng np nb τ)
      obtain ⟨hP, hQ, hR⟩ := c_28
      obtain ⟨i, hi, rfl⟩ := ix_of (N := 5) (by omega) hP
      rw [nI_clamp (by omega)]
      refine r_aload0 (pc := 33) C dX6_bid_33 ?_
      refine gX6_72 (pc := 34) C hT dX6_bid_34 ?_
      refine r_iload1 (pc := 37) C dX6_bid_37 ?_
      refine a425 (pc := 38) C hT rfl (by omega) dX6_bid_38 ?_
      refine r_istore3 (pc := 39) C dX6_bid_39 ?_
      refine r_aload0 (pc := 40) C dX6_bid_40 ?_
      refine gX6_72 (pc := 41) C hT dX6_bid_41 ?_
      refine r_iload1 (pc := 44) C dX6_bid_44 ?_
      refine r_iload2 (pc := 45) C dX6_bid_45 ?_
      refine b425 (pc := 46) C hT rfl (by omega) dX6_bid_46 ?_
      refine r_iload3 (pc := 47) C dX6_bid_47 ?_
      exact r_iret C rfl dX6_bid_48 (by first | exact ⟨fun q => absurd q hno, fun _ => ⟨rfl, rfl⟩⟩ | exact ⟨fun _ => ⟨rfl, rfl⟩, fun q => absurd rfl q⟩) (by decide) (by decide)
    · have hno : ¬ (cd3 (0 ≤ x ∧ x < 5) (1 ≤ y ∧ y ≤ 999999) (¬ σ 60 23 = -1)) = 0 := cd3_f (by assumption)
      refine r_iconst (pc := 31) C (v := 0) dX6_bid_31 (by decide) ?_
      exact r_iret C rfl dX6_bid_32 (by first | exact ⟨fun q => absurd q hno, fun _ => ⟨rfl, rfl⟩⟩ | exact ⟨fun _ => ⟨rfl, rfl⟩, fun q => absurd rfl q⟩) (by decide) (by decide)
  · refine r_iconst (pc := 20) C (v := 1) dX6_bid_20 (by decide) ?_
    refine r_goto (pc := 21) C (tgt := 25) dX6_bid_21 (by decide) ?_
    refine kX6_128 (pc := 25) C (ask3 l D _ _ _ hT (0 ≤ x ∧ x < 5) (1 ≤ y ∧ y ≤ 999999) (¬ σ 60 23 = -1) (by first | rfl | exact (bI_t (by with_reducible assumption)).symm | exact (bI_f (by with_reducible assumption)).symm | (refine (bI_t ?_).symm; and_intros <;> with_reducible assumption) | (refine (bI_f ?_).symm; rintro ⟨h1, h2⟩; first | exact absurd h1 (by with_reducible assumption) | exact absurd h2 (by with_reducible assumption)) | (refine (bI_f ?_).symm; rintro ⟨h1, h2, h3⟩; first | exact absurd h2 (by with_reducible assumption) | exact absurd h3 (by with_reducible assumption)) | exact bI_c (by grind) | exact (bI_t (by grind)).symm | exact (bI_f (by grind)).symm) (fun hP0 => by first | rfl | exact absurd hP0 (by with_reducible assumption) | (obtain ⟨hp1, hp2⟩ := hP0; first | exact absurd hp1 (by with_reducible assumption) | exact absurd hp2 (by with_reducible assumption)) | exact (bI_t (by with_reducible assumption)).symm | exact (bI_f (by with_reducible assumption)).symm | (refine (bI_t ?_).symm; and_intros <;> with_reducible assumption) | (refine (bI_f ?_).symm; rintro ⟨h1, h2⟩; first | exact absurd h1 (by with_reducible assumption) | exact absurd h2 (by with_reducible assumption)) | (refine (bI_f ?_).symm; rintro ⟨h1, h2, h3⟩; first | exact absurd h2 (by with_reducible assumption) | exact absurd h3 (by with_reducible assumption)) | exact bI_c (by grind) | exact (bI_t (by grind)).symm | exact (bI_f (by grind)).symm) (fun hP0 hP1 => by first | rfl | exact absurd hP0 (by with_reducible assumption) | (obtain ⟨hp1, hp2⟩ := hP0; first | exact absurd hp1 (by with_reducible assumption) | exact absurd hp2 (by with_reducible assumption)) | exact (bI_t (by with_reducible assumption)).symm | exact (bI_f (by with_reducible assumption)).symm | (refine (bI_t ?_).symm; and_intros <;> with_reducible assumption) | (refine (bI_f ?_).symm; rintro ⟨h1, h2⟩; first | exact absurd h1 (by with_reducible assumption) | exact absurd h2 (by with_reducible assumption)) | (refine (bI_f ?_).symm; rintro ⟨h1, h2, h3⟩; first | exact absurd h2 (by with_reducible assumption) | exact absurd h3 (by with_reducible assumption)) | exact bI_c (by grind) | exact (bI_t (by grind)).symm | exact (bI_f (by grind)).symm)) (hT.f (by decide)) rfl dX6_bid_25 (Nat.le_of_ble_eq_true rfl) (by decide) ?_
    rintro _ _ ⟨rfl, rfl⟩
    refine r_if_ne_b (pc := 28) C (tgt := 33) dX6_bid_28 (by decide) (fun c_28 => ?_) (fun c_28 => ?_)
    · have hok : (cd3 (0 ≤ x ∧ x < 5) (1 ≤ y ∧ y ≤ 999999) (¬ σ 60 23 = -1)) = 0 := cd3_t c_28
      rw [hok]
      obtain ⟨τ, hτ⟩ : ∃ τ, up σ 60 0 0 = τ := ⟨_, rfl⟩
      rw [hτ]
      obtain ⟨hm1, hm3, hm26, hm18, hnp, hnr, hng, hnb5, hb, hsc, hlc, hpa, hro, hof, hte⟩ := (hτ ▸ ML_up 0 hS : ML nr ng np nb τ)
      obtain ⟨hP, hQ, hR⟩ := c_28
      obtain ⟨i, hi, rfl⟩ := ix_of (N := 5) (by omega) hP
      rw [nI_clamp (by omega)]
      refine r_aload0 (pc := 33) C dX6_bid_33 ?_
      refine gX6_72 (pc := 34) C hT dX6_bid_34 ?_
      refine r_iload1 (pc := 37) C dX6_bid_37 ?_
      refine a425 (pc := 38) C hT rfl (by omega) dX6_bid_38 ?_
      refine r_istore3 (pc := 39) C dX6_bid_39 ?_
      refine r_aload0 (pc := 40) C dX6_bid_40 ?_
      refine gX6_72 (pc := 41) C hT dX6_bid_41 ?_
      refine r_iload1 (pc := 44) C dX6_bid_44 ?_
      refine r_iload2 (pc := 45) C dX6_bid_45 ?_
      refine b425 (pc := 46) C hT rfl (by omega) dX6_bid_46 ?_
      refine r_iload3 (pc := 47) C dX6_bid_47 ?_
      exact r_iret C rfl dX6_bid_48 (by first | exact ⟨fun q => absurd q hno, fun _ => ⟨rfl, rfl⟩⟩ | exact ⟨fun _ => ⟨rfl, rfl⟩, fun q => absurd rfl q⟩) (by decide) (by decide)
    · have hno : ¬ (cd3 (0 ≤ x ∧ x < 5) (1 ≤ y ∧ y ≤ 999999) (¬ σ 60 23 = -1)) = 0 := cd3_f (by assumption)
      refine r_iconst (pc := 31) C (v := 0) dX6_bid_31 (by decide) ?_
      exact r_iret C rfl dX6_bid_32 (by first | exact ⟨fun q => absurd q hno, fun _ => ⟨rfl, rfl⟩⟩ | exact ⟨fun _ => ⟨rfl, rfl⟩, fun q => absurd rfl q⟩) (by decide) (by decide)

set_option maxRecDepth 100000 in
set_option maxHeartbeats 4000000 in
theorem c_X6_stoneIs (l : Launch) (D : Gt) (T : List Nat) (ad : Nat → Nat) (σ : Mm) {nr ng : Nat} (hT : TG nr ng T) {np nb : Nat} (hM : ML nr ng np nb σ) (x y : Int32) : KI D l yX6_stoneIs (uws yX6_stoneIs cX6_stoneIs 3 (some .int)) (RM 7 0 0) [.ref (ad 400), .int x, .int y] (T, ad, cO D ad σ) (fun r S1 => ((cd2 (0 ≤ x ∧ x < nI nr) (0 ≤ y ∧ y ≤ 6)) = 0 → r = siM (up σ 60 0 0) x.toNatClampNeg y ∧ S1 = (T, ad, cO D ad ((up σ 60 0 0)))) ∧ (¬ (cd2 (0 ≤ x ∧ x < nI nr) (0 ≤ y ∧ y ≤ 6)) = 0 → r = 0 ∧ S1 = (T, ad, cO D ad (up σ 60 0 (cd2 (0 ≤ x ∧ x < nI nr) (0 ≤ y ∧ y ≤ 6)))))) (nX) 0 0 := by
  refine KI_of (own := RX6) (L0 := [some (.ref (ad 400)), some (.int x), some (.int y)]) (by decide +kernel) rfl (catc rfl (catc rfl (catc rfl cat0))) (Nat.le_of_ble_eq_true rfl) rfl ?_
  intro p e s m args below meth c A hnm C
  have hS := hM
  obtain ⟨hm1, hm3, hm26, hm18, hnp, hnr, hng, hnb5, hb, hsc, hlc, hpa, hro, hof, hte⟩ := hM
  refine r_aload0 (pc := 0) C dX6_stoneIs_0 ?_
  refine r_aload0 (pc := 1) C dX6_stoneIs_1 ?_
  refine r_iload1 (pc := 2) C dX6_stoneIs_2 ?_
  refine kX6_131 (pc := 3) C (c_X6_isStone l D _ _ _ hT _ hm3) (hT.f (by decide)) rfl dX6_stoneIs_3 (Nat.le_of_ble_eq_true rfl) (by decide) ?_
  rintro _ _ ⟨rfl, rfl⟩
  refine r_iload2 (pc := 6) C dX6_stoneIs_6 ?_
  refine r_iconst (pc := 7) C (v := 0) dX6_stoneIs_7 (by decide) ?_
  refine r_bipush (pc := 8) C (v := 6) dX6_stoneIs_8 (by decide) ?_
  refine kX6_114 (pc := 10) C (c_X6_in l D _ _ _ _) dX6_stoneIs_10 (Nat.le_of_ble_eq_true rfl) (by decide) ?_
  rintro _ _ ⟨rfl, rfl⟩
  refine kX6_124 (pc := 13) C (ask2 l D _ _ _ hT (0 ≤ x ∧ x < nI nr) (0 ≤ y ∧ y ≤ 6) (by first | rfl | exact (bI_t (by with_reducible assumption)).symm | exact (bI_f (by with_reducible assumption)).symm | (refine (bI_t ?_).symm; and_intros <;> with_reducible assumption) | (refine (bI_f ?_).symm; rintro ⟨h1, h2⟩; first | exact absurd h1 (by with_reducible assumption) | exact absurd h2 (by with_reducible assumption)) | (refine (bI_f ?_).symm; rintro ⟨h1, h2, h3⟩; first | exact absurd h2 (by with_reducible assumption) | exact absurd h3 (by with_reducible assumption)) | exact bI_c (by grind) | exact (bI_t (by grind)).symm | exact (bI_f (by grind)).symm) (fun hP0 => by first | rfl | exact absurd hP0 (by with_reducible assumption) | (obtain ⟨hp1, hp2⟩ := hP0; first | exact absurd hp1 (by with_reducible assumption) | exact absurd hp2 (by with_reducible assumption)) | exact (bI_t (by with_reducible assumption)).symm | exact (bI_f (by with_reducible assumption)).symm | (refine (bI_t ?_).symm; and_intros <;> with_reducible assumption) | (refine (bI_f ?_).symm; rintro ⟨h1, h2⟩; first | exact absurd h1 (by with_reducible assumption) | exact absurd h2 (by with_reducible assumption)) | (refine (bI_f ?_).symm; rintro ⟨h1, h2, h3⟩; first | exact absurd h2 (by with_reducible assumption) | exact absurd h3 (by with_reducible assumption)) | exact bI_c (by grind) | exact (bI_t (by grind)).symm | exact (bI_f (by grind)).symm)) (hT.f (by decide)) rfl dX6_stoneIs_13 (Nat.le_of_ble_eq_true rfl) (by decide) ?_
  rintro _ _ ⟨rfl, rfl⟩
  refine r_if_ne_b (pc := 16) C (tgt := 21) dX6_stoneIs_16 (by decide) (fun c_16 => ?_) (fun c_16 => ?_)
  · have hok : (cd2 (0 ≤ x ∧ x < nI nr) (0 ≤ y ∧ y ≤ 6)) = 0 := cd2_t c_16
    rw [hok]
    obtain ⟨τ, hτ⟩ : ∃ τ, up σ 60 0 0 = τ := ⟨_, rfl⟩
    rw [hτ]
    obtain ⟨hm1, hm3, hm26, hm18, hnp, hnr, hng, hnb5, hb, hsc, hlc, hpa, hro, hof, hte⟩ := (hτ ▸ ML_up 0 hS : ML nr ng np nb τ)
    obtain ⟨hP, hQ⟩ := c_16
    obtain ⟨i, hi, rfl⟩ := ix_of (N := nr) (by omega) hP
    rw [nI_clamp (by omega)]
    refine r_iload2 (pc := 21) C dX6_stoneIs_21 ?_
    refine r_if_ne (pc := 22) C (tgt := 34) dX6_stoneIs_22 (by decide) (fun c_22 => ?_) (fun c_22 => ?_)
    · refine r_iload2 (pc := 34) C dX6_stoneIs_34 ?_
      refine r_iconst (pc := 35) C (v := 1) dX6_stoneIs_35 (by decide) ?_
      refine r_icmp_ne (pc := 36) C (tgt := 47) dX6_stoneIs_36 (by decide) (fun c_36 => ?_) (fun c_36 => ?_)
      · refine r_iload2 (pc := 47) C dX6_stoneIs_47 ?_
        refine r_iconst (pc := 48) C (v := 2) dX6_stoneIs_48 (by decide) ?_
        refine r_icmp_ne (pc := 49) C (tgt := 68) dX6_stoneIs_49 (by decide) (fun c_49 => ?_) (fun c_49 => ?_)
        · refine r_iload2 (pc := 68) C dX6_stoneIs_68 ?_
          refine r_iconst (pc := 69) C (v := 3) dX6_stoneIs_69 (by decide) ?_
          refine r_icmp_ne (pc := 70) C (tgt := 82) dX6_stoneIs_70 (by decide) (fun c_70 => ?_) (fun c_70 => ?_)
          · refine r_iload2 (pc := 82) C dX6_stoneIs_82 ?_
            refine r_iconst (pc := 83) C (v := 4) dX6_stoneIs_83 (by decide) ?_
            refine r_icmp_ne (pc := 84) C (tgt := 96) dX6_stoneIs_84 (by decide) (fun c_84 => ?_) (fun c_84 => ?_)
            · refine r_iload2 (pc := 96) C dX6_stoneIs_96 ?_
              refine r_iconst (pc := 97) C (v := 5) dX6_stoneIs_97 (by decide) ?_
              refine r_icmp_ne (pc := 98) C (tgt := 110) dX6_stoneIs_98 (by decide) (fun c_98 => ?_) (fun c_98 => ?_)
              · refine r_aload0 (pc := 110) C dX6_stoneIs_110 ?_
                refine gX6_37 (pc := 111) C hT dX6_stoneIs_111 ?_
                refine r_iload1 (pc := 114) C dX6_stoneIs_114 ?_
                refine a412 (pc := 115) C hT rfl (by omega) dX6_stoneIs_115 ?_
                exact r_iret C rfl dX6_stoneIs_116 (by first | exact ⟨fun q => absurd q hno, fun _ => ⟨rfl, rfl⟩⟩ | exact ⟨fun _ => ⟨by unfold siM; (first | rw [iF_t (show y = 0 by assumption)] | (rw [iF_f (show ¬ y = 0 by assumption)]; first | rw [iF_t (show y = 1 by assumption)] | (rw [iF_f (show ¬ y = 1 by assumption)]; first | rw [iF_t (show y = 2 by assumption)] | (rw [iF_f (show ¬ y = 2 by assumption)]; first | rw [iF_t (show y = 3 by assumption)] | (rw [iF_f (show ¬ y = 3 by assumption)]; first | rw [iF_t (show y = 4 by assumption)] | (rw [iF_f (show ¬ y = 4 by assumption)]; first | rw [iF_t (show y = 5 by assumption)] | (rw [iF_f (show ¬ y = 5 by assumption)]))))))) <;> first | exact (bI_t (by assumption)).symm | exact (bI_f (by assumption)).symm, rfl⟩, fun q => absurd rfl q⟩) (by decide) (by decide)
              · refine r_aload0 (pc := 101) C dX6_stoneIs_101 ?_
                refine gX6_13 (pc := 102) C hT dX6_stoneIs_102 ?_
                refine r_iload1 (pc := 105) C dX6_stoneIs_105 ?_
                refine a404 (pc := 106) C hT rfl (by omega) dX6_stoneIs_106 ?_
                refine r_goto (pc := 107) C (tgt := 116) dX6_stoneIs_107 (by decide) ?_
                exact r_iret C rfl dX6_stoneIs_116 (by first | exact ⟨fun q => absurd q hno, fun _ => ⟨rfl, rfl⟩⟩ | exact ⟨fun _ => ⟨by unfold siM; (first | rw [iF_t (show y = 0 by assumption)] | (rw [iF_f (show ¬ y = 0 by assumption)]; first | rw [iF_t (show y = 1 by assumption)] | (rw [iF_f (show ¬ y = 1 by assumption)]; first | rw [iF_t (show y = 2 by assumption)] | (rw [iF_f (show ¬ y = 2 by assumption)]; first | rw [iF_t (show y = 3 by assumption)] | (rw [iF_f (show ¬ y = 3 by assumption)]; first | rw [iF_t (show y = 4 by assumption)] | (rw [iF_f (show ¬ y = 4 by assumption)]; first | rw [iF_t (show y = 5 by assumption)] | (rw [iF_f (show ¬ y = 5 by assumption)]))))))) <;> first | exact (bI_t (by assumption)).symm | exact (bI_f (by assumption)).symm, rfl⟩, fun q => absurd rfl q⟩) (by decide) (by decide)
            · refine r_aload0 (pc := 87) C dX6_stoneIs_87 ?_
              refine gX6_34 (pc := 88) C hT dX6_stoneIs_88 ?_
              refine r_iload1 (pc := 91) C dX6_stoneIs_91 ?_
              refine a411 (pc := 92) C hT rfl (by omega) dX6_stoneIs_92 ?_
              refine r_goto (pc := 93) C (tgt := 116) dX6_stoneIs_93 (by decide) ?_
              exact r_iret C rfl dX6_stoneIs_116 (by first | exact ⟨fun q => absurd q hno, fun _ => ⟨rfl, rfl⟩⟩ | exact ⟨fun _ => ⟨by unfold siM; (first | rw [iF_t (show y = 0 by assumption)] | (rw [iF_f (show ¬ y = 0 by assumption)]; first | rw [iF_t (show y = 1 by assumption)] | (rw [iF_f (show ¬ y = 1 by assumption)]; first | rw [iF_t (show y = 2 by assumption)] | (rw [iF_f (show ¬ y = 2 by assumption)]; first | rw [iF_t (show y = 3 by assumption)] | (rw [iF_f (show ¬ y = 3 by assumption)]; first | rw [iF_t (show y = 4 by assumption)] | (rw [iF_f (show ¬ y = 4 by assumption)]; first | rw [iF_t (show y = 5 by assumption)] | (rw [iF_f (show ¬ y = 5 by assumption)]))))))) <;> first | exact (bI_t (by assumption)).symm | exact (bI_f (by assumption)).symm, rfl⟩, fun q => absurd rfl q⟩) (by decide) (by decide)
          · refine r_aload0 (pc := 73) C dX6_stoneIs_73 ?_
            refine gX6_31 (pc := 74) C hT dX6_stoneIs_74 ?_
            refine r_iload1 (pc := 77) C dX6_stoneIs_77 ?_
            refine a410 (pc := 78) C hT rfl (by omega) dX6_stoneIs_78 ?_
            refine r_goto (pc := 79) C (tgt := 116) dX6_stoneIs_79 (by decide) ?_
            exact r_iret C rfl dX6_stoneIs_116 (by first | exact ⟨fun q => absurd q hno, fun _ => ⟨rfl, rfl⟩⟩ | exact ⟨fun _ => ⟨by unfold siM; (first | rw [iF_t (show y = 0 by assumption)] | (rw [iF_f (show ¬ y = 0 by assumption)]; first | rw [iF_t (show y = 1 by assumption)] | (rw [iF_f (show ¬ y = 1 by assumption)]; first | rw [iF_t (show y = 2 by assumption)] | (rw [iF_f (show ¬ y = 2 by assumption)]; first | rw [iF_t (show y = 3 by assumption)] | (rw [iF_f (show ¬ y = 3 by assumption)]; first | rw [iF_t (show y = 4 by assumption)] | (rw [iF_f (show ¬ y = 4 by assumption)]; first | rw [iF_t (show y = 5 by assumption)] | (rw [iF_f (show ¬ y = 5 by assumption)]))))))) <;> first | exact (bI_t (by assumption)).symm | exact (bI_f (by assumption)).symm, rfl⟩, fun q => absurd rfl q⟩) (by decide) (by decide)
        · refine r_aload0 (pc := 52) C dX6_stoneIs_52 ?_
          refine r_iload1 (pc := 53) C dX6_stoneIs_53 ?_
          refine kX6_154 (pc := 54) C (c_X6_isDoubtful l D _ _ _ hT (by omega) hb) (hT.f (by decide)) rfl dX6_stoneIs_54 (Nat.le_of_ble_eq_true rfl) (by decide) ?_
          rintro _ _ ⟨rfl, rfl⟩
          refine r_if_eq_b (pc := 57) C (tgt := 64) dX6_stoneIs_57 (by decide) (fun c_57 => ?_) (fun c_57 => ?_)
          · refine r_iconst (pc := 64) C (v := 0) dX6_stoneIs_64 (by decide) ?_
            refine r_goto (pc := 65) C (tgt := 116) dX6_stoneIs_65 (by decide) ?_
            exact r_iret C rfl dX6_stoneIs_116 (by first | exact ⟨fun q => absurd q hno, fun _ => ⟨rfl, rfl⟩⟩ | exact ⟨fun _ => ⟨by unfold siM; (first | rw [iF_t (show y = 0 by assumption)] | (rw [iF_f (show ¬ y = 0 by assumption)]; first | rw [iF_t (show y = 1 by assumption)] | (rw [iF_f (show ¬ y = 1 by assumption)]; first | rw [iF_t (show y = 2 by assumption)] | (rw [iF_f (show ¬ y = 2 by assumption)]; first | rw [iF_t (show y = 3 by assumption)] | (rw [iF_f (show ¬ y = 3 by assumption)]; first | rw [iF_t (show y = 4 by assumption)] | (rw [iF_f (show ¬ y = 4 by assumption)]; first | rw [iF_t (show y = 5 by assumption)] | (rw [iF_f (show ¬ y = 5 by assumption)]))))))) <;> first | exact (bI_t (by assumption)).symm | exact (bI_f (by assumption)).symm, rfl⟩, fun q => absurd rfl q⟩) (by decide) (by decide)
          · refine r_iconst (pc := 60) C (v := 1) dX6_stoneIs_60 (by decide) ?_
            refine r_goto (pc := 61) C (tgt := 116) dX6_stoneIs_61 (by decide) ?_
            exact r_iret C rfl dX6_stoneIs_116 (by first | exact ⟨fun q => absurd q hno, fun _ => ⟨rfl, rfl⟩⟩ | exact ⟨fun _ => ⟨by unfold siM; (first | rw [iF_t (show y = 0 by assumption)] | (rw [iF_f (show ¬ y = 0 by assumption)]; first | rw [iF_t (show y = 1 by assumption)] | (rw [iF_f (show ¬ y = 1 by assumption)]; first | rw [iF_t (show y = 2 by assumption)] | (rw [iF_f (show ¬ y = 2 by assumption)]; first | rw [iF_t (show y = 3 by assumption)] | (rw [iF_f (show ¬ y = 3 by assumption)]; first | rw [iF_t (show y = 4 by assumption)] | (rw [iF_f (show ¬ y = 4 by assumption)]; first | rw [iF_t (show y = 5 by assumption)] | (rw [iF_f (show ¬ y = 5 by assumption)]))))))) <;> first | exact (bI_t (by assumption)).symm | exact (bI_f (by assumption)).symm, rfl⟩, fun q => absurd rfl q⟩) (by decide) (by decide)
      · refine r_aload0 (pc := 39) C dX6_stoneIs_39 ?_
        refine r_iload1 (pc := 40) C dX6_stoneIs_40 ?_
        refine kX6_144 (pc := 41) C (c_X6_qualityOf l D _ _ _ hT (by omega)) (hT.f (by decide)) rfl dX6_stoneIs_41 (Nat.le_of_ble_eq_true rfl) (by decide) ?_
        rintro _ _ ⟨rfl, rfl⟩
        refine r_goto (pc := 44) C (tgt := 116) dX6_stoneIs_44 (by decide) ?_
        exact r_iret C rfl dX6_stoneIs_116 (by first | exact ⟨fun q => absurd q hno, fun _ => ⟨rfl, rfl⟩⟩ | exact ⟨fun _ => ⟨by unfold siM; (first | rw [iF_t (show y = 0 by assumption)] | (rw [iF_f (show ¬ y = 0 by assumption)]; first | rw [iF_t (show y = 1 by assumption)] | (rw [iF_f (show ¬ y = 1 by assumption)]; first | rw [iF_t (show y = 2 by assumption)] | (rw [iF_f (show ¬ y = 2 by assumption)]; first | rw [iF_t (show y = 3 by assumption)] | (rw [iF_f (show ¬ y = 3 by assumption)]; first | rw [iF_t (show y = 4 by assumption)] | (rw [iF_f (show ¬ y = 4 by assumption)]; first | rw [iF_t (show y = 5 by assumption)] | (rw [iF_f (show ¬ y = 5 by assumption)]))))))) <;> first | exact (bI_t (by assumption)).symm | exact (bI_f (by assumption)).symm, rfl⟩, fun q => absurd rfl q⟩) (by decide) (by decide)
    · refine r_aload0 (pc := 25) C dX6_stoneIs_25 ?_
      refine gX6_28 (pc := 26) C hT dX6_stoneIs_26 ?_
      refine r_iload1 (pc := 29) C dX6_stoneIs_29 ?_
      refine a409 (pc := 30) C hT rfl (by omega) dX6_stoneIs_30 ?_
      refine r_goto (pc := 31) C (tgt := 116) dX6_stoneIs_31 (by decide) ?_
      exact r_iret C rfl dX6_stoneIs_116 (by first | exact ⟨fun q => absurd q hno, fun _ => ⟨rfl, rfl⟩⟩ | exact ⟨fun _ => ⟨by unfold siM; (first | rw [iF_t (show y = 0 by assumption)] | (rw [iF_f (show ¬ y = 0 by assumption)]; first | rw [iF_t (show y = 1 by assumption)] | (rw [iF_f (show ¬ y = 1 by assumption)]; first | rw [iF_t (show y = 2 by assumption)] | (rw [iF_f (show ¬ y = 2 by assumption)]; first | rw [iF_t (show y = 3 by assumption)] | (rw [iF_f (show ¬ y = 3 by assumption)]; first | rw [iF_t (show y = 4 by assumption)] | (rw [iF_f (show ¬ y = 4 by assumption)]; first | rw [iF_t (show y = 5 by assumption)] | (rw [iF_f (show ¬ y = 5 by assumption)]))))))) <;> first | exact (bI_t (by assumption)).symm | exact (bI_f (by assumption)).symm, rfl⟩, fun q => absurd rfl q⟩) (by decide) (by decide)
  · have hno : ¬ (cd2 (0 ≤ x ∧ x < nI nr) (0 ≤ y ∧ y ≤ 6)) = 0 := cd2_f (by assumption)
    refine r_iconst (pc := 19) C (v := 0) dX6_stoneIs_19 (by decide) ?_
    exact r_iret C rfl dX6_stoneIs_20 (by first | exact ⟨fun q => absurd q hno, fun _ => ⟨rfl, rfl⟩⟩ | exact ⟨fun _ => ⟨by unfold siM; (first | rw [iF_t (show y = 0 by assumption)] | (rw [iF_f (show ¬ y = 0 by assumption)]; first | rw [iF_t (show y = 1 by assumption)] | (rw [iF_f (show ¬ y = 1 by assumption)]; first | rw [iF_t (show y = 2 by assumption)] | (rw [iF_f (show ¬ y = 2 by assumption)]; first | rw [iF_t (show y = 3 by assumption)] | (rw [iF_f (show ¬ y = 3 by assumption)]; first | rw [iF_t (show y = 4 by assumption)] | (rw [iF_f (show ¬ y = 4 by assumption)]; first | rw [iF_t (show y = 5 by assumption)] | (rw [iF_f (show ¬ y = 5 by assumption)]))))))) <;> first | exact (bI_t (by assumption)).symm | exact (bI_f (by assumption)).symm, rfl⟩, fun q => absurd rfl q⟩) (by decide) (by decide)

set_option maxRecDepth 100000 in
set_option maxHeartbeats 4000000 in
theorem c_X6_polished (l : Launch) (D : Gt) (T : List Nat) (ad : Nat → Nat) (σ : Mm) {nr ng : Nat} (hT : TG nr ng T) {np nb : Nat} (hM : ML nr ng np nb σ) (x y : Int32) : KI D l yX6_polished (uws yX6_polished cX6_polished 3 (some .int)) (RM 7 0 0) [.ref (ad 400), .int x, .int y] (T, ad, cO D ad σ) (fun r S1 => ((cd2 (0 ≤ x ∧ x < nI ng) (0 ≤ y ∧ y ≤ 8)) = 0 → r = poM (up σ 60 0 0) x.toNatClampNeg y ∧ S1 = (T, ad, cO D ad ((up σ 60 0 0)))) ∧ (¬ (cd2 (0 ≤ x ∧ x < nI ng) (0 ≤ y ∧ y ≤ 8)) = 0 → r = 0 ∧ S1 = (T, ad, cO D ad (up σ 60 0 (cd2 (0 ≤ x ∧ x < nI ng) (0 ≤ y ∧ y ≤ 8)))))) (nX) 0 0 := by
  refine KI_of (own := RX6) (L0 := [some (.ref (ad 400)), some (.int x), some (.int y)]) (by decide +kernel) rfl (catc rfl (catc rfl (catc rfl cat0))) (Nat.le_of_ble_eq_true rfl) rfl ?_
  intro p e s m args below meth c A hnm C
  have hS := hM
  obtain ⟨hm1, hm3, hm26, hm18, hnp, hnr, hng, hnb5, hb, hsc, hlc, hpa, hro, hof, hte⟩ := hM
  refine r_aload0 (pc := 0) C dX6_polished_0 ?_
  refine r_aload0 (pc := 1) C dX6_polished_1 ?_
  refine r_iload1 (pc := 2) C dX6_polished_2 ?_
  refine kX6_194 (pc := 3) C (c_X6_isPolished l D _ _ _ hT _ hm26) (hT.f (by decide)) rfl dX6_polished_3 (Nat.le_of_ble_eq_true rfl) (by decide) ?_
  rintro _ _ ⟨rfl, rfl⟩
  refine r_iload2 (pc := 6) C dX6_polished_6 ?_
  refine r_iconst (pc := 7) C (v := 0) dX6_polished_7 (by decide) ?_
  refine r_bipush (pc := 8) C (v := 8) dX6_polished_8 (by decide) ?_
  refine kX6_114 (pc := 10) C (c_X6_in l D _ _ _ _) dX6_polished_10 (Nat.le_of_ble_eq_true rfl) (by decide) ?_
  rintro _ _ ⟨rfl, rfl⟩
  refine kX6_124 (pc := 13) C (ask2 l D _ _ _ hT (0 ≤ x ∧ x < nI ng) (0 ≤ y ∧ y ≤ 8) (by first | rfl | exact (bI_t (by with_reducible assumption)).symm | exact (bI_f (by with_reducible assumption)).symm | (refine (bI_t ?_).symm; and_intros <;> with_reducible assumption) | (refine (bI_f ?_).symm; rintro ⟨h1, h2⟩; first | exact absurd h1 (by with_reducible assumption) | exact absurd h2 (by with_reducible assumption)) | (refine (bI_f ?_).symm; rintro ⟨h1, h2, h3⟩; first | exact absurd h2 (by with_reducible assumption) | exact absurd h3 (by with_reducible assumption)) | exact bI_c (by grind) | exact (bI_t (by grind)).symm | exact (bI_f (by grind)).symm) (fun hP0 => by first | rfl | exact absurd hP0 (by with_reducible assumption) | (obtain ⟨hp1, hp2⟩ := hP0; first | exact absurd hp1 (by with_reducible assumption) | exact absurd hp2 (by with_reducible assumption)) | exact (bI_t (by with_reducible assumption)).symm | exact (bI_f (by with_reducible assumption)).symm | (refine (bI_t ?_).symm; and_intros <;> with_reducible assumption) | (refine (bI_f ?_).symm; rintro ⟨h1, h2⟩; first | exact absurd h1 (by with_reducible assumption) | exact absurd h2 (by with_reducible assumption)) | (refine (bI_f ?_).symm; rintro ⟨h1, h2, h3⟩; first | exact absurd h2 (by with_reducible assumption) | exact absurd h3 (by with_reducible assumption)) | exact bI_c (by grind) | exact (bI_t (by grind)).symm | exact (bI_f (by grind)).symm)) (hT.f (by decide)) rfl dX6_polished_13 (Nat.le_of_ble_eq_true rfl) (by decide) ?_
  rintro _ _ ⟨rfl, rfl⟩
  refine r_if_ne_b (pc := 16) C (tgt := 21) dX6_polished_16 (by decide) (fun c_16 => ?_) (fun c_16 => ?_)
  · have hok : (cd2 (0 ≤ x ∧ x < nI ng) (0 ≤ y ∧ y ≤ 8)) = 0 := cd2_t c_16
    rw [hok]
    obtain ⟨τ, hτ⟩ : ∃ τ, up σ 60 0 0 = τ := ⟨_, rfl⟩
    rw [hτ]
    obtain ⟨hm1, hm3, hm26, hm18, hnp, hnr, hng, hnb5, hb, hsc, hlc, hpa, hro, hof, hte⟩ := (hτ ▸ ML_up 0 hS : ML nr ng np nb τ)
    obtain ⟨hP, hQ⟩ := c_16
    obtain ⟨i, hi, rfl⟩ := ix_of (N := ng) (by omega) hP
    rw [nI_clamp (by omega)]
    obtain ⟨c3, hc3, hce⟩ := hlc i hi
    have hl3 : τ 93 i ≤ 3 := by rw [hce]; exact (nI_leI (b := 3) (by omega) (by decide)).mpr hc3
    obtain ⟨q, hq, hqx⟩ := hro i hi
    obtain ⟨a, ha, hax⟩ := hpa q hq
    refine r_iload2 (pc := 21) C dX6_polished_21 ?_
    refine r_if_ne (pc := 22) C (tgt := 34) dX6_polished_22 (by decide) (fun c_22 => ?_) (fun c_22 => ?_)
    · refine r_iload2 (pc := 34) C dX6_polished_34 ?_
      refine r_iconst (pc := 35) C (v := 1) dX6_polished_35 (by decide) ?_
      refine r_icmp_ne (pc := 36) C (tgt := 48) dX6_polished_36 (by decide) (fun c_36 => ?_) (fun c_36 => ?_)
      · refine r_iload2 (pc := 48) C dX6_polished_48 ?_
        refine r_iconst (pc := 49) C (v := 2) dX6_polished_49 (by decide) ?_
        refine r_icmp_ne (pc := 50) C (tgt := 62) dX6_polished_50 (by decide) (fun c_50 => ?_) (fun c_50 => ?_)
        · refine r_iload2 (pc := 62) C dX6_polished_62 ?_
          refine r_iconst (pc := 63) C (v := 3) dX6_polished_63 (by decide) ?_
          refine r_icmp_ne (pc := 64) C (tgt := 76) dX6_polished_64 (by decide) (fun c_64 => ?_) (fun c_64 => ?_)
          · refine r_iload2 (pc := 76) C dX6_polished_76 ?_
            refine r_iconst (pc := 77) C (v := 4) dX6_polished_77 (by decide) ?_
            refine r_icmp_ne (pc := 78) C (tgt := 90) dX6_polished_78 (by decide) (fun c_78 => ?_) (fun c_78 => ?_)
            · refine r_iload2 (pc := 90) C dX6_polished_90 ?_
              refine r_iconst (pc := 91) C (v := 5) dX6_polished_91 (by decide) ?_
              refine r_icmp_ne (pc := 92) C (tgt := 103) dX6_polished_92 (by decide) (fun c_92 => ?_) (fun c_92 => ?_)
              · refine r_iload2 (pc := 103) C dX6_polished_103 ?_
                refine r_bipush (pc := 104) C (v := 6) dX6_polished_104 (by decide) ?_
                refine r_icmp_ne (pc := 106) C (tgt := 117) dX6_polished_106 (by decide) (fun c_106 => ?_) (fun c_106 => ?_)
                · refine r_iload2 (pc := 117) C dX6_polished_117 ?_
                  refine r_bipush (pc := 118) C (v := 7) dX6_polished_118 (by decide) ?_
                  refine r_icmp_ne (pc := 120) C (tgt := 132) dX6_polished_120 (by decide) (fun c_120 => ?_) (fun c_120 => ?_)
                  · refine r_aload0 (pc := 132) C dX6_polished_132 ?_
                    refine r_iload1 (pc := 133) C dX6_polished_133 ?_
                    refine kX6_203 (pc := 134) C (c_X6_originOf l D _ _ _ hT (by omega) hqx (by omega) hax (by omega)) (hT.f (by decide)) rfl dX6_polished_134 (Nat.le_of_ble_eq_true rfl) (by decide) ?_
                    rintro _ _ ⟨rfl, rfl⟩
                    exact r_iret C rfl dX6_polished_137 (by first | exact ⟨fun q => absurd q hno, fun _ => ⟨rfl, rfl⟩⟩ | exact ⟨fun _ => ⟨by unfold poM; (first | rw [iF_t (show y = 0 by assumption)] | (rw [iF_f (show ¬ y = 0 by assumption)]; first | rw [iF_t (show y = 1 by assumption)] | (rw [iF_f (show ¬ y = 1 by assumption)]; first | rw [iF_t (show y = 2 by assumption)] | (rw [iF_f (show ¬ y = 2 by assumption)]; first | rw [iF_t (show y = 3 by assumption)] | (rw [iF_f (show ¬ y = 3 by assumption)]; first | rw [iF_t (show y = 4 by assumption)] | (rw [iF_f (show ¬ y = 4 by assumption)]; first | rw [iF_t (show y = 5 by assumption)] | (rw [iF_f (show ¬ y = 5 by assumption)]; first | rw [iF_t (show y = 6 by assumption)] | (rw [iF_f (show ¬ y = 6 by assumption)]; first | rw [iF_t (show y = 7 by assumption)] | (rw [iF_f (show ¬ y = 7 by assumption)]))))))))), rfl⟩, fun q => absurd rfl q⟩) (by decide) (by decide)
                  · refine r_aload0 (pc := 123) C dX6_polished_123 ?_
                    refine gX6_90 (pc := 124) C hT dX6_polished_124 ?_
                    refine r_iload1 (pc := 127) C dX6_polished_127 ?_
                    refine a432 (pc := 128) C hT rfl (by omega) dX6_polished_128 ?_
                    refine r_goto (pc := 129) C (tgt := 137) dX6_polished_129 (by decide) ?_
                    exact r_iret C rfl dX6_polished_137 (by first | exact ⟨fun q => absurd q hno, fun _ => ⟨rfl, rfl⟩⟩ | exact ⟨fun _ => ⟨by unfold poM; (first | rw [iF_t (show y = 0 by assumption)] | (rw [iF_f (show ¬ y = 0 by assumption)]; first | rw [iF_t (show y = 1 by assumption)] | (rw [iF_f (show ¬ y = 1 by assumption)]; first | rw [iF_t (show y = 2 by assumption)] | (rw [iF_f (show ¬ y = 2 by assumption)]; first | rw [iF_t (show y = 3 by assumption)] | (rw [iF_f (show ¬ y = 3 by assumption)]; first | rw [iF_t (show y = 4 by assumption)] | (rw [iF_f (show ¬ y = 4 by assumption)]; first | rw [iF_t (show y = 5 by assumption)] | (rw [iF_f (show ¬ y = 5 by assumption)]; first | rw [iF_t (show y = 6 by assumption)] | (rw [iF_f (show ¬ y = 6 by assumption)]; first | rw [iF_t (show y = 7 by assumption)] | (rw [iF_f (show ¬ y = 7 by assumption)]))))))))), rfl⟩, fun q => absurd rfl q⟩) (by decide) (by decide)
                · refine r_aload0 (pc := 109) C dX6_polished_109 ?_
                  refine r_iload1 (pc := 110) C dX6_polished_110 ?_
                  refine kX6_200 (pc := 111) C (c_X6_priceOf l D _ _ _ hT (by omega) hl3) (hT.f (by decide)) rfl dX6_polished_111 (Nat.le_of_ble_eq_true rfl) (by decide) ?_
                  rintro _ _ ⟨rfl, rfl⟩
                  refine r_goto (pc := 114) C (tgt := 137) dX6_polished_114 (by decide) ?_
                  exact r_iret C rfl dX6_polished_137 (by first | exact ⟨fun q => absurd q hno, fun _ => ⟨rfl, rfl⟩⟩ | exact ⟨fun _ => ⟨by unfold poM; (first | rw [iF_t (show y = 0 by assumption)] | (rw [iF_f (show ¬ y = 0 by assumption)]; first | rw [iF_t (show y = 1 by assumption)] | (rw [iF_f (show ¬ y = 1 by assumption)]; first | rw [iF_t (show y = 2 by assumption)] | (rw [iF_f (show ¬ y = 2 by assumption)]; first | rw [iF_t (show y = 3 by assumption)] | (rw [iF_f (show ¬ y = 3 by assumption)]; first | rw [iF_t (show y = 4 by assumption)] | (rw [iF_f (show ¬ y = 4 by assumption)]; first | rw [iF_t (show y = 5 by assumption)] | (rw [iF_f (show ¬ y = 5 by assumption)]; first | rw [iF_t (show y = 6 by assumption)] | (rw [iF_f (show ¬ y = 6 by assumption)]; first | rw [iF_t (show y = 7 by assumption)] | (rw [iF_f (show ¬ y = 7 by assumption)]))))))))), rfl⟩, fun q => absurd rfl q⟩) (by decide) (by decide)
              · refine r_aload0 (pc := 95) C dX6_polished_95 ?_
                refine r_iload1 (pc := 96) C dX6_polished_96 ?_
                refine kX6_197 (pc := 97) C (c_X6_gradeOf l D _ _ _ hT (by omega) hl3) (hT.f (by decide)) rfl dX6_polished_97 (Nat.le_of_ble_eq_true rfl) (by decide) ?_
                rintro _ _ ⟨rfl, rfl⟩
                refine r_goto (pc := 100) C (tgt := 137) dX6_polished_100 (by decide) ?_
                exact r_iret C rfl dX6_polished_137 (by first | exact ⟨fun q => absurd q hno, fun _ => ⟨rfl, rfl⟩⟩ | exact ⟨fun _ => ⟨by unfold poM; (first | rw [iF_t (show y = 0 by assumption)] | (rw [iF_f (show ¬ y = 0 by assumption)]; first | rw [iF_t (show y = 1 by assumption)] | (rw [iF_f (show ¬ y = 1 by assumption)]; first | rw [iF_t (show y = 2 by assumption)] | (rw [iF_f (show ¬ y = 2 by assumption)]; first | rw [iF_t (show y = 3 by assumption)] | (rw [iF_f (show ¬ y = 3 by assumption)]; first | rw [iF_t (show y = 4 by assumption)] | (rw [iF_f (show ¬ y = 4 by assumption)]; first | rw [iF_t (show y = 5 by assumption)] | (rw [iF_f (show ¬ y = 5 by assumption)]; first | rw [iF_t (show y = 6 by assumption)] | (rw [iF_f (show ¬ y = 6 by assumption)]; first | rw [iF_t (show y = 7 by assumption)] | (rw [iF_f (show ¬ y = 7 by assumption)]))))))))), rfl⟩, fun q => absurd rfl q⟩) (by decide) (by decide)
            · refine r_aload0 (pc := 81) C dX6_polished_81 ?_
              refine gX6_87 (pc := 82) C hT dX6_polished_82 ?_
              refine r_iload1 (pc := 85) C dX6_polished_85 ?_
              refine a431 (pc := 86) C hT rfl (by omega) dX6_polished_86 ?_
              refine r_goto (pc := 87) C (tgt := 137) dX6_polished_87 (by decide) ?_
              exact r_iret C rfl dX6_polished_137 (by first | exact ⟨fun q => absurd q hno, fun _ => ⟨rfl, rfl⟩⟩ | exact ⟨fun _ => ⟨by unfold poM; (first | rw [iF_t (show y = 0 by assumption)] | (rw [iF_f (show ¬ y = 0 by assumption)]; first | rw [iF_t (show y = 1 by assumption)] | (rw [iF_f (show ¬ y = 1 by assumption)]; first | rw [iF_t (show y = 2 by assumption)] | (rw [iF_f (show ¬ y = 2 by assumption)]; first | rw [iF_t (show y = 3 by assumption)] | (rw [iF_f (show ¬ y = 3 by assumption)]; first | rw [iF_t (show y = 4 by assumption)] | (rw [iF_f (show ¬ y = 4 by assumption)]; first | rw [iF_t (show y = 5 by assumption)] | (rw [iF_f (show ¬ y = 5 by assumption)]; first | rw [iF_t (show y = 6 by assumption)] | (rw [iF_f (show ¬ y = 6 by assumption)]; first | rw [iF_t (show y = 7 by assumption)] | (rw [iF_f (show ¬ y = 7 by assumption)]))))))))), rfl⟩, fun q => absurd rfl q⟩) (by decide) (by decide)
          · refine r_aload0 (pc := 67) C dX6_polished_67 ?_
            refine gX6_84 (pc := 68) C hT dX6_polished_68 ?_
            refine r_iload1 (pc := 71) C dX6_polished_71 ?_
            refine a430 (pc := 72) C hT rfl (by omega) dX6_polished_72 ?_
            refine r_goto (pc := 73) C (tgt := 137) dX6_polished_73 (by decide) ?_
            exact r_iret C rfl dX6_polished_137 (by first | exact ⟨fun q => absurd q hno, fun _ => ⟨rfl, rfl⟩⟩ | exact ⟨fun _ => ⟨by unfold poM; (first | rw [iF_t (show y = 0 by assumption)] | (rw [iF_f (show ¬ y = 0 by assumption)]; first | rw [iF_t (show y = 1 by assumption)] | (rw [iF_f (show ¬ y = 1 by assumption)]; first | rw [iF_t (show y = 2 by assumption)] | (rw [iF_f (show ¬ y = 2 by assumption)]; first | rw [iF_t (show y = 3 by assumption)] | (rw [iF_f (show ¬ y = 3 by assumption)]; first | rw [iF_t (show y = 4 by assumption)] | (rw [iF_f (show ¬ y = 4 by assumption)]; first | rw [iF_t (show y = 5 by assumption)] | (rw [iF_f (show ¬ y = 5 by assumption)]; first | rw [iF_t (show y = 6 by assumption)] | (rw [iF_f (show ¬ y = 6 by assumption)]; first | rw [iF_t (show y = 7 by assumption)] | (rw [iF_f (show ¬ y = 7 by assumption)]))))))))), rfl⟩, fun q => absurd rfl q⟩) (by decide) (by decide)
        · refine r_aload0 (pc := 53) C dX6_polished_53 ?_
          refine gX6_81 (pc := 54) C hT dX6_polished_54 ?_
          refine r_iload1 (pc := 57) C dX6_polished_57 ?_
          refine a429 (pc := 58) C hT rfl (by omega) dX6_polished_58 ?_
          refine r_goto (pc := 59) C (tgt := 137) dX6_polished_59 (by decide) ?_
          exact r_iret C rfl dX6_polished_137 (by first | exact ⟨fun q => absurd q hno, fun _ => ⟨rfl, rfl⟩⟩ | exact ⟨fun _ => ⟨by unfold poM; (first | rw [iF_t (show y = 0 by assumption)] | (rw [iF_f (show ¬ y = 0 by assumption)]; first | rw [iF_t (show y = 1 by assumption)] | (rw [iF_f (show ¬ y = 1 by assumption)]; first | rw [iF_t (show y = 2 by assumption)] | (rw [iF_f (show ¬ y = 2 by assumption)]; first | rw [iF_t (show y = 3 by assumption)] | (rw [iF_f (show ¬ y = 3 by assumption)]; first | rw [iF_t (show y = 4 by assumption)] | (rw [iF_f (show ¬ y = 4 by assumption)]; first | rw [iF_t (show y = 5 by assumption)] | (rw [iF_f (show ¬ y = 5 by assumption)]; first | rw [iF_t (show y = 6 by assumption)] | (rw [iF_f (show ¬ y = 6 by assumption)]; first | rw [iF_t (show y = 7 by assumption)] | (rw [iF_f (show ¬ y = 7 by assumption)]))))))))), rfl⟩, fun q => absurd rfl q⟩) (by decide) (by decide)
      · refine r_aload0 (pc := 39) C dX6_polished_39 ?_
        refine gX6_78 (pc := 40) C hT dX6_polished_40 ?_
        refine r_iload1 (pc := 43) C dX6_polished_43 ?_
        refine a428 (pc := 44) C hT rfl (by omega) dX6_polished_44 ?_
        refine r_goto (pc := 45) C (tgt := 137) dX6_polished_45 (by decide) ?_
        exact r_iret C rfl dX6_polished_137 (by first | exact ⟨fun q => absurd q hno, fun _ => ⟨rfl, rfl⟩⟩ | exact ⟨fun _ => ⟨by unfold poM; (first | rw [iF_t (show y = 0 by assumption)] | (rw [iF_f (show ¬ y = 0 by assumption)]; first | rw [iF_t (show y = 1 by assumption)] | (rw [iF_f (show ¬ y = 1 by assumption)]; first | rw [iF_t (show y = 2 by assumption)] | (rw [iF_f (show ¬ y = 2 by assumption)]; first | rw [iF_t (show y = 3 by assumption)] | (rw [iF_f (show ¬ y = 3 by assumption)]; first | rw [iF_t (show y = 4 by assumption)] | (rw [iF_f (show ¬ y = 4 by assumption)]; first | rw [iF_t (show y = 5 by assumption)] | (rw [iF_f (show ¬ y = 5 by assumption)]; first | rw [iF_t (show y = 6 by assumption)] | (rw [iF_f (show ¬ y = 6 by assumption)]; first | rw [iF_t (show y = 7 by assumption)] | (rw [iF_f (show ¬ y = 7 by assumption)]))))))))), rfl⟩, fun q => absurd rfl q⟩) (by decide) (by decide)
    · refine r_aload0 (pc := 25) C dX6_polished_25 ?_
      refine gX6_75 (pc := 26) C hT dX6_polished_26 ?_
      refine r_iload1 (pc := 29) C dX6_polished_29 ?_
      refine a427 (pc := 30) C hT rfl (by omega) dX6_polished_30 ?_
      refine r_goto (pc := 31) C (tgt := 137) dX6_polished_31 (by decide) ?_
      exact r_iret C rfl dX6_polished_137 (by first | exact ⟨fun q => absurd q hno, fun _ => ⟨rfl, rfl⟩⟩ | exact ⟨fun _ => ⟨by unfold poM; (first | rw [iF_t (show y = 0 by assumption)] | (rw [iF_f (show ¬ y = 0 by assumption)]; first | rw [iF_t (show y = 1 by assumption)] | (rw [iF_f (show ¬ y = 1 by assumption)]; first | rw [iF_t (show y = 2 by assumption)] | (rw [iF_f (show ¬ y = 2 by assumption)]; first | rw [iF_t (show y = 3 by assumption)] | (rw [iF_f (show ¬ y = 3 by assumption)]; first | rw [iF_t (show y = 4 by assumption)] | (rw [iF_f (show ¬ y = 4 by assumption)]; first | rw [iF_t (show y = 5 by assumption)] | (rw [iF_f (show ¬ y = 5 by assumption)]; first | rw [iF_t (show y = 6 by assumption)] | (rw [iF_f (show ¬ y = 6 by assumption)]; first | rw [iF_t (show y = 7 by assumption)] | (rw [iF_f (show ¬ y = 7 by assumption)]))))))))), rfl⟩, fun q => absurd rfl q⟩) (by decide) (by decide)
  · have hno : ¬ (cd2 (0 ≤ x ∧ x < nI ng) (0 ≤ y ∧ y ≤ 8)) = 0 := cd2_f (by assumption)
    refine r_iconst (pc := 19) C (v := 0) dX6_polished_19 (by decide) ?_
    exact r_iret C rfl dX6_polished_20 (by first | exact ⟨fun q => absurd q hno, fun _ => ⟨rfl, rfl⟩⟩ | exact ⟨fun _ => ⟨by unfold poM; (first | rw [iF_t (show y = 0 by assumption)] | (rw [iF_f (show ¬ y = 0 by assumption)]; first | rw [iF_t (show y = 1 by assumption)] | (rw [iF_f (show ¬ y = 1 by assumption)]; first | rw [iF_t (show y = 2 by assumption)] | (rw [iF_f (show ¬ y = 2 by assumption)]; first | rw [iF_t (show y = 3 by assumption)] | (rw [iF_f (show ¬ y = 3 by assumption)]; first | rw [iF_t (show y = 4 by assumption)] | (rw [iF_f (show ¬ y = 4 by assumption)]; first | rw [iF_t (show y = 5 by assumption)] | (rw [iF_f (show ¬ y = 5 by assumption)]; first | rw [iF_t (show y = 6 by assumption)] | (rw [iF_f (show ¬ y = 6 by assumption)]; first | rw [iF_t (show y = 7 by assumption)] | (rw [iF_f (show ¬ y = 7 by assumption)]))))))))), rfl⟩, fun q => absurd rfl q⟩) (by decide) (by decide)

set_option maxRecDepth 100000 in
set_option maxHeartbeats 4000000 in
theorem c_X6_tender (l : Launch) (D : Gt) (T : List Nat) (ad : Nat → Nat) (σ : Mm) {nr ng : Nat} (hT : TG nr ng T) {np nb : Nat} (hM : ML nr ng np nb σ) (x y : Int32) : KV D l yX6_tender (uws yX6_tender cX6_tender 5 none) (RM 7 0 0) [.ref (ad 400), .int x, .int y] (T, ad, cO D ad σ) (fun S1 => ((cd3 (0 ≤ x ∧ x < nI nr) (0 ≤ y ∧ y ≤ 999999) (σ 69 x.toNatClampNeg = 0 ∧ σ 60 23 = -1)) = 0 → S1 = (T, ad, cO D ad (upR (up (up (up σ 60 0 0) 60 23 x) 60 24 y) 85 (fillF ((up σ 60 0 0) 85) (-1) 5)))) ∧ (¬ (cd3 (0 ≤ x ∧ x < nI nr) (0 ≤ y ∧ y ≤ 999999) (σ 69 x.toNatClampNeg = 0 ∧ σ 60 23 = -1)) = 0 → S1 = (T, ad, cO D ad (up σ 60 0 (cd3 (0 ≤ x ∧ x < nI nr) (0 ≤ y ∧ y ≤ 999999) (σ 69 x.toNatClampNeg = 0 ∧ σ 60 23 = -1)))))) (nX) 0 0 := by
  refine KV_of (own := RX6) (L0 := [some (.ref (ad 400)), some (.int x), some (.int y), none, none]) (by decide +kernel) rfl (catc rfl (catc rfl (catc rfl cat0))) (Nat.le_of_ble_eq_true rfl) rfl ?_
  intro p e s m args below meth c A hnm C
  have hS := hM
  obtain ⟨hm1, hm3, hm26, hm18, hnp, hnr, hng, hnb5, hb, hsc, hlc, hpa, hro, hof, hte⟩ := hM
  by_cases h_x : 0 ≤ x ∧ x < nI nr
  · obtain ⟨i, hi, rfl⟩ := ix_of (N := nr) (by omega) h_x
    rw [nI_clamp (by omega)]
    refine r_aload0 (pc := 0) C dX6_tender_0 ?_
    refine r_iload1 (pc := 1) C dX6_tender_1 ?_
    refine kX6_131 (pc := 2) C (c_X6_isStone l D _ _ _ hT _ hm3) (hT.f (by decide)) rfl dX6_tender_2 (Nat.le_of_ble_eq_true rfl) (by decide) ?_
    rintro _ _ ⟨rfl, rfl⟩
    refine r_istore3 (pc := 5) C dX6_tender_5 ?_
    refine r_aload0 (pc := 6) C dX6_tender_6 ?_
    refine r_iload3 (pc := 7) C dX6_tender_7 ?_
    refine r_iload2 (pc := 8) C dX6_tender_8 ?_
    refine r_iconst (pc := 9) C (v := 0) dX6_tender_9 (by decide) ?_
    refine cX6_177 (pc := 10) C dX6_tender_10 ?_
    refine kX6_114 (pc := 12) C (c_X6_in l D _ _ _ _) dX6_tender_12 (Nat.le_of_ble_eq_true rfl) (by decide) ?_
    rintro _ _ ⟨rfl, rfl⟩
    refine r_iload3 (pc := 15) C dX6_tender_15 ?_
    refine r_if_eq_b (pc := 16) C (tgt := 40) dX6_tender_16 (by decide) (fun c_16 => ?_) (fun c_16 => ?_)
    · refine r_iconst (pc := 40) C (v := 0) dX6_tender_40 (by decide) ?_
      refine kX6_128 (pc := 41) C (ask3 l D _ _ _ hT (0 ≤ (nI i) ∧ (nI i) < nI nr) (0 ≤ y ∧ y ≤ 999999) (σ 69 i = 0 ∧ σ 60 23 = -1) (by first | rfl | exact (bI_t (by with_reducible assumption)).symm | exact (bI_f (by with_reducible assumption)).symm | (refine (bI_t ?_).symm; and_intros <;> with_reducible assumption) | (refine (bI_f ?_).symm; rintro ⟨h1, h2⟩; first | exact absurd h1 (by with_reducible assumption) | exact absurd h2 (by with_reducible assumption)) | (refine (bI_f ?_).symm; rintro ⟨h1, h2, h3⟩; first | exact absurd h2 (by with_reducible assumption) | exact absurd h3 (by with_reducible assumption)) | exact bI_c (by grind) | exact (bI_t (by grind)).symm | exact (bI_f (by grind)).symm) (fun hP0 => by first | rfl | exact absurd hP0 (by with_reducible assumption) | (obtain ⟨hp1, hp2⟩ := hP0; first | exact absurd hp1 (by with_reducible assumption) | exact absurd hp2 (by with_reducible assumption)) | exact (bI_t (by with_reducible assumption)).symm | exact (bI_f (by with_reducible assumption)).symm | (refine (bI_t ?_).symm; and_intros <;> with_reducible assumption) | (refine (bI_f ?_).symm; rintro ⟨h1, h2⟩; first | exact absurd h1 (by with_reducible assumption) | exact absurd h2 (by with_reducible assumption)) | (refine (bI_f ?_).symm; rintro ⟨h1, h2, h3⟩; first | exact absurd h2 (by with_reducible assumption) | exact absurd h3 (by with_reducible assumption)) | exact bI_c (by grind) | exact (bI_t (by grind)).symm | exact (bI_f (by grind)).symm) (fun hP0 hP1 => by first | rfl | exact absurd hP0 (by with_reducible assumption) | (obtain ⟨hp1, hp2⟩ := hP0; first | exact absurd hp1 (by with_reducible assumption) | exact absurd hp2 (by with_reducible assumption)) | exact (bI_t (by with_reducible assumption)).symm | exact (bI_f (by with_reducible assumption)).symm | (refine (bI_t ?_).symm; and_intros <;> with_reducible assumption) | (refine (bI_f ?_).symm; rintro ⟨h1, h2⟩; first | exact absurd h1 (by with_reducible assumption) | exact absurd h2 (by with_reducible assumption)) | (refine (bI_f ?_).symm; rintro ⟨h1, h2, h3⟩; first | exact absurd h2 (by with_reducible assumption) | exact absurd h3 (by with_reducible assumption)) | exact bI_c (by grind) | exact (bI_t (by grind)).symm | exact (bI_f (by grind)).symm)) (hT.f (by decide)) rfl dX6_tender_41 (Nat.le_of_ble_eq_true rfl) (by decide) ?_
      rintro _ _ ⟨rfl, rfl⟩
      refine r_if_eq_b (pc := 44) C (tgt := 80) dX6_tender_44 (by decide) (fun c_44 => ?_) (fun c_44 => ?_)
      · have hno : ¬ (cd3 (0 ≤ (nI i) ∧ (nI i) < nI nr) (0 ≤ y ∧ y ≤ 999999) (σ 69 i = 0 ∧ σ 60 23 = -1)) = 0 := cd3_f (by assumption)
        exact r_vret C rfl dX6_tender_80 (by first | exact ⟨fun q => absurd q hno, fun _ => rfl⟩ | exact ⟨fun _ => rfl, fun q => absurd rfl q⟩) (by decide) (by decide)
      · have hok : (cd3 (0 ≤ (nI i) ∧ (nI i) < nI nr) (0 ≤ y ∧ y ≤ 999999) (σ 69 i = 0 ∧ σ 60 23 = -1)) = 0 := cd3_t c_44
        rw [hok]
        obtain ⟨τ, hτ⟩ : ∃ τ, up σ 60 0 0 = τ := ⟨_, rfl⟩
        rw [hτ]
        obtain ⟨hm1, hm3, hm26, hm18, hnp, hnr, hng, hnb5, hb, hsc, hlc, hpa, hro, hof, hte⟩ := (hτ ▸ ML_up 0 hS : ML nr ng np nb τ)
        obtain ⟨hP, hQ, hR⟩ := c_44
        refine r_aload0 (pc := 47) C dX6_tender_47 ?_
        refine r_iload1 (pc := 48) C dX6_tender_48 ?_
        refine pX6_68 (pc := 49) C hT dX6_tender_49 ?_
        refine r_aload0 (pc := 52) C dX6_tender_52 ?_
        refine r_iload2 (pc := 53) C dX6_tender_53 ?_
        refine pX6_178 (pc := 54) C hT dX6_tender_54 ?_
        refine r_iconst (pc := 57) C (v := 0) dX6_tender_57 (by decide) ?_
        refine r_istore4 (pc := 58) C dX6_tender_58 ?_
        have loop : ∀ (z k : Nat) (ρ : Mm) (x3 : Option Value) (hρ : ρ = upR (up (up τ 60 23 (nI i)) 60 24 y) 85 (fillF (τ 85) (-1) k)), k ≤ 5 → 5 < k + z → V D A 5 (T, ad, cO D ad ρ) p l e (RM 7 0 0) s m args below meth c 0 0 (vx_MQ below (va_Qv (fun S1 => ((0 : Int32) = 0 → S1 = (T, ad, cO D ad (upR (up (up τ 60 23 (nI i)) 60 24 y) 85 (fillF (τ 85) (-1) 5)))) ∧ (¬ (0 : Int32) = 0 → S1 = (T, ad, cO D ad (τ)))) (PoB D A) A) (XCs D (T, ad, cO D ad σ) A (nX)) args s 0 0 A) 60 [some (.ref (ad 400)), some (.int (nI i)), some (.int y), x3, some (.int (nI k))] [] := by
          intro z
          induction z with
          | zero => intro k ρ x3 hρ h1 h2; omega
          | succ z ih =>
            intro k ρ x3 hρ h1 h2
            have hk : nI k + 1 = nI (k + 1) := nI_1 k
            refine r_iload4 (pc := 60) C dX6_tender_60 ?_
            refine r_iconst (pc := 62) C (v := nI 5) dX6_tender_62 (by decide) ?_
            refine r_icmp_geN (pc := 63) C (tgt := 80) dX6_tender_63 (by decide) (by omega) (by omega) (fun c_63 => ?_) (fun c_63 => ?_)
            · exact r_vret C rfl dX6_tender_80 (⟨fun _ => by rw [hρ, show k = 5 by omega], fun q => absurd rfl q⟩) (by decide) (by decide)
            · refine r_aload0 (pc := 66) C dX6_tender_66 ?_
              refine gX6_72 (pc := 67) C hT dX6_tender_67 ?_
              refine r_iload4 (pc := 70) C dX6_tender_70 ?_
              refine r_iconst (pc := 72) C (v := (-1)) dX6_tender_72 (by decide) ?_
              refine b425 (pc := 73) C hT rfl (by omega) dX6_tender_73 ?_
              refine r_iinc4 (pc := 74) C dX6_tender_74 hk ?_
              refine r_goto (pc := 77) C (tgt := 60) dX6_tender_77 (by decide) ?_
              exact ih (k + 1) _ _ (by rw [hρ]; exact upR_s) (by omega) (by omega)
        exact loop 6 0 _ _ (upR_0 (σ := up (up τ 60 23 (nI i)) 60 24 y) (r := 85)).symm (by omega) (by omega)
    · refine r_aload0 (pc := 19) C dX6_tender_19 ?_
      refine gX6_28 (pc := 20) C hT dX6_tender_20 ?_
      refine r_iload1 (pc := 23) C dX6_tender_23 ?_
      refine a409 (pc := 24) C hT rfl (by omega) dX6_tender_24 ?_
      refine r_if_ne (pc := 25) C (tgt := 40) dX6_tender_25 (by decide) (fun c_25 => ?_) (fun c_25 => ?_)
      · refine r_iconst (pc := 40) C (v := 0) dX6_tender_40 (by decide) ?_
        refine kX6_128 (pc := 41) C (ask3 l D _ _ _ hT (0 ≤ (nI i) ∧ (nI i) < nI nr) (0 ≤ y ∧ y ≤ 999999) (σ 69 i = 0 ∧ σ 60 23 = -1) (by first | rfl | exact (bI_t (by with_reducible assumption)).symm | exact (bI_f (by with_reducible assumption)).symm | (refine (bI_t ?_).symm; and_intros <;> with_reducible assumption) | (refine (bI_f ?_).symm; rintro ⟨h1, h2⟩; first | exact absurd h1 (by with_reducible assumption) | exact absurd h2 (by with_reducible assumption)) | (refine (bI_f ?_).symm; rintro ⟨h1, h2, h3⟩; first | exact absurd h2 (by with_reducible assumption) | exact absurd h3 (by with_reducible assumption)) | exact bI_c (by grind) | exact (bI_t (by grind)).symm | exact (bI_f (by grind)).symm) (fun hP0 => by first | rfl | exact absurd hP0 (by with_reducible assumption) | (obtain ⟨hp1, hp2⟩ := hP0; first | exact absurd hp1 (by with_reducible assumption) | exact absurd hp2 (by with_reducible assumption)) | exact (bI_t (by with_reducible assumption)).symm | exact (bI_f (by with_reducible assumption)).symm | (refine (bI_t ?_).symm; and_intros <;> with_reducible assumption) | (refine (bI_f ?_).symm; rintro ⟨h1, h2⟩; first | exact absurd h1 (by with_reducible assumption) | exact absurd h2 (by with_reducible assumption)) | (refine (bI_f ?_).symm; rintro ⟨h1, h2, h3⟩; first | exact absurd h2 (by with_reducible assumption) | exact absurd h3 (by with_reducible assumption)) | exact bI_c (by grind) | exact (bI_t (by grind)).symm | exact (bI_f (by grind)).symm) (fun hP0 hP1 => by first | rfl | exact absurd hP0 (by with_reducible assumption) | (obtain ⟨hp1, hp2⟩ := hP0; first | exact absurd hp1 (by with_reducible assumption) | exact absurd hp2 (by with_reducible assumption)) | exact (bI_t (by with_reducible assumption)).symm | exact (bI_f (by with_reducible assumption)).symm | (refine (bI_t ?_).symm; and_intros <;> with_reducible assumption) | (refine (bI_f ?_).symm; rintro ⟨h1, h2⟩; first | exact absurd h1 (by with_reducible assumption) | exact absurd h2 (by with_reducible assumption)) | (refine (bI_f ?_).symm; rintro ⟨h1, h2, h3⟩; first | exact absurd h2 (by with_reducible assumption) | exact absurd h3 (by with_reducible assumption)) | exact bI_c (by grind) | exact (bI_t (by grind)).symm | exact (bI_f (by grind)).symm)) (hT.f (by decide)) rfl dX6_tender_41 (Nat.le_of_ble_eq_true rfl) (by decide) ?_
        rintro _ _ ⟨rfl, rfl⟩
        refine r_if_eq_b (pc := 44) C (tgt := 80) dX6_tender_44 (by decide) (fun c_44 => ?_) (fun c_44 => ?_)
        · have hno : ¬ (cd3 (0 ≤ (nI i) ∧ (nI i) < nI nr) (0 ≤ y ∧ y ≤ 999999) (σ 69 i = 0 ∧ σ 60 23 = -1)) = 0 := cd3_f (by assumption)
          exact r_vret C rfl dX6_tender_80 (by first | exact ⟨fun q => absurd q hno, fun _ => rfl⟩ | exact ⟨fun _ => rfl, fun q => absurd rfl q⟩) (by decide) (by decide)
        · have hok : (cd3 (0 ≤ (nI i) ∧ (nI i) < nI nr) (0 ≤ y ∧ y ≤ 999999) (σ 69 i = 0 ∧ σ 60 23 = -1)) = 0 := cd3_t c_44
          rw [hok]
          obtain ⟨τ, hτ⟩ : ∃ τ, up σ 60 0 0 = τ := ⟨_, rfl⟩
          rw [hτ]
          obtain ⟨hm1, hm3, hm26, hm18, hnp, hnr, hng, hnb5, hb, hsc, hlc, hpa, hro, hof, hte⟩ := (hτ ▸ ML_up 0 hS : ML nr ng np nb τ)
          obtain ⟨hP, hQ, hR⟩ := c_44
          refine r_aload0 (pc := 47) C dX6_tender_47 ?_
          refine r_iload1 (pc := 48) C dX6_tender_48 ?_
          refine pX6_68 (pc := 49) C hT dX6_tender_49 ?_
          refine r_aload0 (pc := 52) C dX6_tender_52 ?_
          refine r_iload2 (pc := 53) C dX6_tender_53 ?_
          refine pX6_178 (pc := 54) C hT dX6_tender_54 ?_
          refine r_iconst (pc := 57) C (v := 0) dX6_tender_57 (by decide) ?_
          refine r_istore4 (pc := 58) C dX6_tender_58 ?_
          have loop : ∀ (z k : Nat) (ρ : Mm) (x3 : Option Value) (hρ : ρ = upR (up (up τ 60 23 (nI i)) 60 24 y) 85 (fillF (τ 85) (-1) k)), k ≤ 5 → 5 < k + z → V D A 5 (T, ad, cO D ad ρ) p l e (RM 7 0 0) s m args below meth c 0 0 (vx_MQ below (va_Qv (fun S1 => ((0 : Int32) = 0 → S1 = (T, ad, cO D ad (upR (up (up τ 60 23 (nI i)) 60 24 y) 85 (fillF (τ 85) (-1) 5)))) ∧ (¬ (0 : Int32) = 0 → S1 = (T, ad, cO D ad (τ)))) (PoB D A) A) (XCs D (T, ad, cO D ad σ) A (nX)) args s 0 0 A) 60 [some (.ref (ad 400)), some (.int (nI i)), some (.int y), x3, some (.int (nI k))] [] := by
            intro z
            induction z with
            | zero => intro k ρ x3 hρ h1 h2; omega
            | succ z ih =>
              intro k ρ x3 hρ h1 h2
              have hk : nI k + 1 = nI (k + 1) := nI_1 k
              refine r_iload4 (pc := 60) C dX6_tender_60 ?_
              refine r_iconst (pc := 62) C (v := nI 5) dX6_tender_62 (by decide) ?_
              refine r_icmp_geN (pc := 63) C (tgt := 80) dX6_tender_63 (by decide) (by omega) (by omega) (fun c_63 => ?_) (fun c_63 => ?_)
              · exact r_vret C rfl dX6_tender_80 (⟨fun _ => by rw [hρ, show k = 5 by omega], fun q => absurd rfl q⟩) (by decide) (by decide)
              · refine r_aload0 (pc := 66) C dX6_tender_66 ?_
                refine gX6_72 (pc := 67) C hT dX6_tender_67 ?_
                refine r_iload4 (pc := 70) C dX6_tender_70 ?_
                refine r_iconst (pc := 72) C (v := (-1)) dX6_tender_72 (by decide) ?_
                refine b425 (pc := 73) C hT rfl (by omega) dX6_tender_73 ?_
                refine r_iinc4 (pc := 74) C dX6_tender_74 hk ?_
                refine r_goto (pc := 77) C (tgt := 60) dX6_tender_77 (by decide) ?_
                exact ih (k + 1) _ _ (by rw [hρ]; exact upR_s) (by omega) (by omega)
          exact loop 6 0 _ _ (upR_0 (σ := up (up τ 60 23 (nI i)) 60 24 y) (r := 85)).symm (by omega) (by omega)
      · refine r_aload0 (pc := 28) C dX6_tender_28 ?_
        refine gX6_68 (pc := 29) C hT dX6_tender_29 ?_
        refine r_iconst (pc := 32) C (v := (-1)) dX6_tender_32 (by decide) ?_
        refine r_icmp_ne (pc := 33) C (tgt := 40) dX6_tender_33 (by decide) (fun c_33 => ?_) (fun c_33 => ?_)
        · refine r_iconst (pc := 40) C (v := 0) dX6_tender_40 (by decide) ?_
          refine kX6_128 (pc := 41) C (ask3 l D _ _ _ hT (0 ≤ (nI i) ∧ (nI i) < nI nr) (0 ≤ y ∧ y ≤ 999999) (σ 69 i = 0 ∧ σ 60 23 = -1) (by first | rfl | exact (bI_t (by with_reducible assumption)).symm | exact (bI_f (by with_reducible assumption)).symm | (refine (bI_t ?_).symm; and_intros <;> with_reducible assumption) | (refine (bI_f ?_).symm; rintro ⟨h1, h2⟩; first | exact absurd h1 (by with_reducible assumption) | exact absurd h2 (by with_reducible assumption)) | (refine (bI_f ?_).symm; rintro ⟨h1, h2, h3⟩; first | exact absurd h2 (by with_reducible assumption) | exact absurd h3 (by with_reducible assumption)) | exact bI_c (by grind) | exact (bI_t (by grind)).symm | exact (bI_f (by grind)).symm) (fun hP0 => by first | rfl | exact absurd hP0 (by with_reducible assumption) | (obtain ⟨hp1, hp2⟩ := hP0; first | exact absurd hp1 (by with_reducible assumption) | exact absurd hp2 (by with_reducible assumption)) | exact (bI_t (by with_reducible assumption)).symm | exact (bI_f (by with_reducible assumption)).symm | (refine (bI_t ?_).symm; and_intros <;> with_reducible assumption) | (refine (bI_f ?_).symm; rintro ⟨h1, h2⟩; first | exact absurd h1 (by with_reducible assumption) | exact absurd h2 (by with_reducible assumption)) | (refine (bI_f ?_).symm; rintro ⟨h1, h2, h3⟩; first | exact absurd h2 (by with_reducible assumption) | exact absurd h3 (by with_reducible assumption)) | exact bI_c (by grind) | exact (bI_t (by grind)).symm | exact (bI_f (by grind)).symm) (fun hP0 hP1 => by first | rfl | exact absurd hP0 (by with_reducible assumption) | (obtain ⟨hp1, hp2⟩ := hP0; first | exact absurd hp1 (by with_reducible assumption) | exact absurd hp2 (by with_reducible assumption)) | exact (bI_t (by with_reducible assumption)).symm | exact (bI_f (by with_reducible assumption)).symm | (refine (bI_t ?_).symm; and_intros <;> with_reducible assumption) | (refine (bI_f ?_).symm; rintro ⟨h1, h2⟩; first | exact absurd h1 (by with_reducible assumption) | exact absurd h2 (by with_reducible assumption)) | (refine (bI_f ?_).symm; rintro ⟨h1, h2, h3⟩; first | exact absurd h2 (by with_reducible assumption) | exact absurd h3 (by with_reducible assumption)) | exact bI_c (by grind) | exact (bI_t (by grind)).symm | exact (bI_f (by grind)).symm)) (hT.f (by decide)) rfl dX6_tender_41 (Nat.le_of_ble_eq_true rfl) (by decide) ?_
          rintro _ _ ⟨rfl, rfl⟩
          refine r_if_eq_b (pc := 44) C (tgt := 80) dX6_tender_44 (by decide) (fun c_44 => ?_) (fun c_44 => ?_)
          · have hno : ¬ (cd3 (0 ≤ (nI i) ∧ (nI i) < nI nr) (0 ≤ y ∧ y ≤ 999999) (σ 69 i = 0 ∧ σ 60 23 = -1)) = 0 := cd3_f (by assumption)
            exact r_vret C rfl dX6_tender_80 (by first | exact ⟨fun q => absurd q hno, fun _ => rfl⟩ | exact ⟨fun _ => rfl, fun q => absurd rfl q⟩) (by decide) (by decide)
          · have hok : (cd3 (0 ≤ (nI i) ∧ (nI i) < nI nr) (0 ≤ y ∧ y ≤ 999999) (σ 69 i = 0 ∧ σ 60 23 = -1)) = 0 := cd3_t c_44
            rw [hok]
            obtain ⟨τ, hτ⟩ : ∃ τ, up σ 60 0 0 = τ := ⟨_, rfl⟩
            rw [hτ]
            obtain ⟨hm1, hm3, hm26, hm18, hnp, hnr, hng, hnb5, hb, hsc, hlc, hpa, hro, hof, hte⟩ := (hτ ▸ ML_up 0 hS : ML nr ng np nb τ)
            obtain ⟨hP, hQ, hR⟩ := c_44
            refine r_aload0 (pc := 47) C dX6_tender_47 ?_
            refine r_iload1 (pc := 48) C dX6_tender_48 ?_
            refine pX6_68 (pc := 49) C hT dX6_tender_49 ?_
            refine r_aload0 (pc := 52) C dX6_tender_52 ?_
            refine r_iload2 (pc := 53) C dX6_tender_53 ?_
            refine pX6_178 (pc := 54) C hT dX6_tender_54 ?_
            refine r_iconst (pc := 57) C (v := 0) dX6_tender_57 (by decide) ?_
            refine r_istore4 (pc := 58) C dX6_tender_58 ?_
            have loop : ∀ (z k : Nat) (ρ : Mm) (x3 : Option Value) (hρ : ρ = upR (up (up τ 60 23 (nI i)) 60 24 y) 85 (fillF (τ 85) (-1) k)), k ≤ 5 → 5 < k + z → V D A 5 (T, ad, cO D ad ρ) p l e (RM 7 0 0) s m args below meth c 0 0 (vx_MQ below (va_Qv (fun S1 => ((0 : Int32) = 0 → S1 = (T, ad, cO D ad (upR (up (up τ 60 23 (nI i)) 60 24 y) 85 (fillF (τ 85) (-1) 5)))) ∧ (¬ (0 : Int32) = 0 → S1 = (T, ad, cO D ad (τ)))) (PoB D A) A) (XCs D (T, ad, cO D ad σ) A (nX)) args s 0 0 A) 60 [some (.ref (ad 400)), some (.int (nI i)), some (.int y), x3, some (.int (nI k))] [] := by
              intro z
              induction z with
              | zero => intro k ρ x3 hρ h1 h2; omega
              | succ z ih =>
                intro k ρ x3 hρ h1 h2
                have hk : nI k + 1 = nI (k + 1) := nI_1 k
                refine r_iload4 (pc := 60) C dX6_tender_60 ?_
                refine r_iconst (pc := 62) C (v := nI 5) dX6_tender_62 (by decide) ?_
                refine r_icmp_geN (pc := 63) C (tgt := 80) dX6_tender_63 (by decide) (by omega) (by omega) (fun c_63 => ?_) (fun c_63 => ?_)
                · exact r_vret C rfl dX6_tender_80 (⟨fun _ => by rw [hρ, show k = 5 by omega], fun q => absurd rfl q⟩) (by decide) (by decide)
                · refine r_aload0 (pc := 66) C dX6_tender_66 ?_
                  refine gX6_72 (pc := 67) C hT dX6_tender_67 ?_
                  refine r_iload4 (pc := 70) C dX6_tender_70 ?_
                  refine r_iconst (pc := 72) C (v := (-1)) dX6_tender_72 (by decide) ?_
                  refine b425 (pc := 73) C hT rfl (by omega) dX6_tender_73 ?_
                  refine r_iinc4 (pc := 74) C dX6_tender_74 hk ?_
                  refine r_goto (pc := 77) C (tgt := 60) dX6_tender_77 (by decide) ?_
                  exact ih (k + 1) _ _ (by rw [hρ]; exact upR_s) (by omega) (by omega)
            exact loop 6 0 _ _ (upR_0 (σ := up (up τ 60 23 (nI i)) 60 24 y) (r := 85)).symm (by omega) (by omega)
        · refine r_iconst (pc := 36) C (v := 1) dX6_tender_36 (by decide) ?_
          refine r_goto (pc := 37) C (tgt := 41) dX6_tender_37 (by decide) ?_
          refine kX6_128 (pc := 41) C (ask3 l D _ _ _ hT (0 ≤ (nI i) ∧ (nI i) < nI nr) (0 ≤ y ∧ y ≤ 999999) (σ 69 i = 0 ∧ σ 60 23 = -1) (by first | rfl | exact (bI_t (by with_reducible assumption)).symm | exact (bI_f (by with_reducible assumption)).symm | (refine (bI_t ?_).symm; and_intros <;> with_reducible assumption) | (refine (bI_f ?_).symm; rintro ⟨h1, h2⟩; first | exact absurd h1 (by with_reducible assumption) | exact absurd h2 (by with_reducible assumption)) | (refine (bI_f ?_).symm; rintro ⟨h1, h2, h3⟩; first | exact absurd h2 (by with_reducible assumption) | exact absurd h3 (by with_reducible assumption)) | exact bI_c (by grind) | exact (bI_t (by grind)).symm | exact (bI_f (by grind)).symm) (fun hP0 => by first | rfl | exact absurd hP0 (by with_reducible assumption) | (obtain ⟨hp1, hp2⟩ := hP0; first | exact absurd hp1 (by with_reducible assumption) | exact absurd hp2 (by with_reducible assumption)) | exact (bI_t (by with_reducible assumption)).symm | exact (bI_f (by with_reducible assumption)).symm | (refine (bI_t ?_).symm; and_intros <;> with_reducible assumption) | (refine (bI_f ?_).symm; rintro ⟨h1, h2⟩; first | exact absurd h1 (by with_reducible assumption) | exact absurd h2 (by with_reducible assumption)) | (refine (bI_f ?_).symm; rintro ⟨h1, h2, h3⟩; first | exact absurd h2 (by with_reducible assumption) | exact absurd h3 (by with_reducible assumption)) | exact bI_c (by grind) | exact (bI_t (by grind)).symm | exact (bI_f (by grind)).symm) (fun hP0 hP1 => by first | rfl | exact absurd hP0 (by with_reducible assumption) | (obtain ⟨hp1, hp2⟩ := hP0; first | exact absurd hp1 (by with_reducible assumption) | exact absurd hp2 (by with_reducible assumption)) | exact (bI_t (by with_reducible assumption)).symm | exact (bI_f (by with_reducible assumption)).symm | (refine (bI_t ?_).symm; and_intros <;> with_reducible assumption) | (refine (bI_f ?_).symm; rintro ⟨h1, h2⟩; first | exact absurd h1 (by with_reducible assumption) | exact absurd h2 (by with_reducible assumption)) | (refine (bI_f ?_).symm; rintro ⟨h1, h2, h3⟩; first | exact absurd h2 (by with_reducible assumption) | exact absurd h3 (by with_reducible assumption)) | exact bI_c (by grind) | exact (bI_t (by grind)).symm | exact (bI_f (by grind)).symm)) (hT.f (by decide)) rfl dX6_tender_41 (Nat.le_of_ble_eq_true rfl) (by decide) ?_
          rintro _ _ ⟨rfl, rfl⟩
          refine r_if_eq_b (pc := 44) C (tgt := 80) dX6_tender_44 (by decide) (fun c_44 => ?_) (fun c_44 => ?_)
          · have hno : ¬ (cd3 (0 ≤ (nI i) ∧ (nI i) < nI nr) (0 ≤ y ∧ y ≤ 999999) (σ 69 i = 0 ∧ σ 60 23 = -1)) = 0 := cd3_f (by assumption)
            exact r_vret C rfl dX6_tender_80 (by first | exact ⟨fun q => absurd q hno, fun _ => rfl⟩ | exact ⟨fun _ => rfl, fun q => absurd rfl q⟩) (by decide) (by decide)
          · have hok : (cd3 (0 ≤ (nI i) ∧ (nI i) < nI nr) (0 ≤ y ∧ y ≤ 999999) (σ 69 i = 0 ∧ σ 60 23 = -1)) = 0 := cd3_t c_44
            rw [hok]
            obtain ⟨τ, hτ⟩ : ∃ τ, up σ 60 0 0 = τ := ⟨_, rfl⟩
            rw [hτ]
            obtain ⟨hm1, hm3, hm26, hm18, hnp, hnr, hng, hnb5, hb, hsc, hlc, hpa, hro, hof, hte⟩ := (hτ ▸ ML_up 0 hS : ML nr ng np nb τ)
            obtain ⟨hP, hQ, hR⟩ := c_44
            refine r_aload0 (pc := 47) C dX6_tender_47 ?_
            refine r_iload1 (pc := 48) C dX6_tender_48 ?_
            refine pX6_68 (pc := 49) C hT dX6_tender_49 ?_
            refine r_aload0 (pc := 52) C dX6_tender_52 ?_
            refine r_iload2 (pc := 53) C dX6_tender_53 ?_
            refine pX6_178 (pc := 54) C hT dX6_tender_54 ?_
            refine r_iconst (pc := 57) C (v := 0) dX6_tender_57 (by decide) ?_
            refine r_istore4 (pc := 58) C dX6_tender_58 ?_
            have loop : ∀ (z k : Nat) (ρ : Mm) (x3 : Option Value) (hρ : ρ = upR (up (up τ 60 23 (nI i)) 60 24 y) 85 (fillF (τ 85) (-1) k)), k ≤ 5 → 5 < k + z → V D A 5 (T, ad, cO D ad ρ) p l e (RM 7 0 0) s m args below meth c 0 0 (vx_MQ below (va_Qv (fun S1 => ((0 : Int32) = 0 → S1 = (T, ad, cO D ad (upR (up (up τ 60 23 (nI i)) 60 24 y) 85 (fillF (τ 85) (-1) 5)))) ∧ (¬ (0 : Int32) = 0 → S1 = (T, ad, cO D ad (τ)))) (PoB D A) A) (XCs D (T, ad, cO D ad σ) A (nX)) args s 0 0 A) 60 [some (.ref (ad 400)), some (.int (nI i)), some (.int y), x3, some (.int (nI k))] [] := by
              intro z
              induction z with
              | zero => intro k ρ x3 hρ h1 h2; omega
              | succ z ih =>
                intro k ρ x3 hρ h1 h2
                have hk : nI k + 1 = nI (k + 1) := nI_1 k
                refine r_iload4 (pc := 60) C dX6_tender_60 ?_
                refine r_iconst (pc := 62) C (v := nI 5) dX6_tender_62 (by decide) ?_
                refine r_icmp_geN (pc := 63) C (tgt := 80) dX6_tender_63 (by decide) (by omega) (by omega) (fun c_63 => ?_) (fun c_63 => ?_)
                · exact r_vret C rfl dX6_tender_80 (⟨fun _ => by rw [hρ, show k = 5 by omega], fun q => absurd rfl q⟩) (by decide) (by decide)
                · refine r_aload0 (pc := 66) C dX6_tender_66 ?_
                  refine gX6_72 (pc := 67) C hT dX6_tender_67 ?_
                  refine r_iload4 (pc := 70) C dX6_tender_70 ?_
                  refine r_iconst (pc := 72) C (v := (-1)) dX6_tender_72 (by decide) ?_
                  refine b425 (pc := 73) C hT rfl (by omega) dX6_tender_73 ?_
                  refine r_iinc4 (pc := 74) C dX6_tender_74 hk ?_
                  refine r_goto (pc := 77) C (tgt := 60) dX6_tender_77 (by decide) ?_
                  exact ih (k + 1) _ _ (by rw [hρ]; exact upR_s) (by omega) (by omega)
            exact loop 6 0 _ _ (upR_0 (σ := up (up τ 60 23 (nI i)) 60 24 y) (r := 85)).symm (by omega) (by omega)
  · refine r_aload0 (pc := 0) C dX6_tender_0 ?_
    refine r_iload1 (pc := 1) C dX6_tender_1 ?_
    refine kX6_131 (pc := 2) C (c_X6_isStone l D _ _ _ hT _ hm3) (hT.f (by decide)) rfl dX6_tender_2 (Nat.le_of_ble_eq_true rfl) (by decide) ?_
    rintro _ _ ⟨rfl, rfl⟩
    refine r_istore3 (pc := 5) C dX6_tender_5 ?_
    refine r_aload0 (pc := 6) C dX6_tender_6 ?_
    refine r_iload3 (pc := 7) C dX6_tender_7 ?_
    refine r_iload2 (pc := 8) C dX6_tender_8 ?_
    refine r_iconst (pc := 9) C (v := 0) dX6_tender_9 (by decide) ?_
    refine cX6_177 (pc := 10) C dX6_tender_10 ?_
    refine kX6_114 (pc := 12) C (c_X6_in l D _ _ _ _) dX6_tender_12 (Nat.le_of_ble_eq_true rfl) (by decide) ?_
    rintro _ _ ⟨rfl, rfl⟩
    refine r_iload3 (pc := 15) C dX6_tender_15 ?_
    refine r_if_eq_b (pc := 16) C (tgt := 40) dX6_tender_16 (by decide) (fun c_16 => ?_) (fun c_16 => ?_)
    · refine r_iconst (pc := 40) C (v := 0) dX6_tender_40 (by decide) ?_
      refine kX6_128 (pc := 41) C (ask3 l D _ _ _ hT (0 ≤ x ∧ x < nI nr) (0 ≤ y ∧ y ≤ 999999) (σ 69 x.toNatClampNeg = 0 ∧ σ 60 23 = -1) (by first | rfl | exact (bI_t (by with_reducible assumption)).symm | exact (bI_f (by with_reducible assumption)).symm | (refine (bI_t ?_).symm; and_intros <;> with_reducible assumption) | (refine (bI_f ?_).symm; rintro ⟨h1, h2⟩; first | exact absurd h1 (by with_reducible assumption) | exact absurd h2 (by with_reducible assumption)) | (refine (bI_f ?_).symm; rintro ⟨h1, h2, h3⟩; first | exact absurd h2 (by with_reducible assumption) | exact absurd h3 (by with_reducible assumption)) | exact bI_c (by grind) | exact (bI_t (by grind)).symm | exact (bI_f (by grind)).symm) (fun hP0 => by first | rfl | exact absurd hP0 (by with_reducible assumption) | (obtain ⟨hp1, hp2⟩ := hP0; first | exact absurd hp1 (by with_reducible assumption) | exact absurd hp2 (by with_reducible assumption)) | exact (bI_t (by with_reducible assumption)).symm | exact (bI_f (by with_reducible assumption)).symm | (refine (bI_t ?_).symm; and_intros <;> with_reducible assumption) | (refine (bI_f ?_).symm; rintro ⟨h1, h2⟩; first | exact absurd h1 (by with_reducible assumption) | exact absurd h2 (by with_reducible assumption)) | (refine (bI_f ?_).symm; rintro ⟨h1, h2, h3⟩; first | exact absurd h2 (by with_reducible assumption) | exact absurd h3 (by with_reducible assumption)) | exact bI_c (by grind) | exact (bI_t (by grind)).symm | exact (bI_f (by grind)).symm) (fun hP0 hP1 => by first | rfl | exact absurd hP0 (by with_reducible assumption) | (obtain ⟨hp1, hp2⟩ := hP0; first | exact absurd hp1 (by with_reducible assumption) | exact absurd hp2 (by with_reducible assumption)) | exact (bI_t (by with_reducible assumption)).symm | exact (bI_f (by with_reducible assumption)).symm | (refine (bI_t ?_).symm; and_intros <;> with_reducible assumption) | (refine (bI_f ?_).symm; rintro ⟨h1, h2⟩; first | exact absurd h1 (by with_reducible assumption) | exact absurd h2 (by with_reducible assumption)) | (refine (bI_f ?_).symm; rintro ⟨h1, h2, h3⟩; first | exact absurd h2 (by with_reducible assumption) | exact absurd h3 (by with_reducible assumption)) | exact bI_c (by grind) | exact (bI_t (by grind)).symm | exact (bI_f (by grind)).symm)) (hT.f (by decide)) rfl dX6_tender_41 (Nat.le_of_ble_eq_true rfl) (by decide) ?_
      rintro _ _ ⟨rfl, rfl⟩
      refine r_if_eq_b (pc := 44) C (tgt := 80) dX6_tender_44 (by decide) (fun c_44 => ?_) (fun c_44 => ?_)
      · have hno : ¬ (cd3 (0 ≤ x ∧ x < nI nr) (0 ≤ y ∧ y ≤ 999999) (σ 69 x.toNatClampNeg = 0 ∧ σ 60 23 = -1)) = 0 := cd3_f (by assumption)
        exact r_vret C rfl dX6_tender_80 (by first | exact ⟨fun q => absurd q hno, fun _ => rfl⟩ | exact ⟨fun _ => rfl, fun q => absurd rfl q⟩) (by decide) (by decide)
      · first | exact absurd c_44.1 h_x | exact absurd c_44.1.2 h_x | exact absurd c_44.1.1 h_x | (exfalso; grind)
    · exfalso; grind

set_option maxRecDepth 100000 in
set_option maxHeartbeats 4000000 in
theorem c_X6_recut (l : Launch) (D : Gt) (T : List Nat) (ad : Nat → Nat) (σ : Mm) {nr ng : Nat} (hT : TG nr ng T) {np nb : Nat} (hM : ML nr ng np nb σ) (x y : Int32) : KI D l yX6_recut (uws yX6_recut cX6_recut 5 (some .int)) (RM 7 0 0) [.ref (ad 400), .int x, .int y] (T, ad, cO D ad σ) (fun r S1 => ((cd2 (0 ≤ x ∧ x < nI ng) (1 ≤ y ∧ y ≤ σ 88 x.toNatClampNeg - 1)) = 0 → r = (up σ 60 0 0) 88 x.toNatClampNeg - y ∧ S1 = (T, ad, cO D ad (up (up (up σ 60 0 0) 88 x.toNatClampNeg y) 60 38 ((up σ 60 0 0) 60 38 + ((up σ 60 0 0) 88 x.toNatClampNeg - y))))) ∧ (¬ (cd2 (0 ≤ x ∧ x < nI ng) (1 ≤ y ∧ y ≤ σ 88 x.toNatClampNeg - 1)) = 0 → r = 0 ∧ S1 = (T, ad, cO D ad (up σ 60 0 (cd2 (0 ≤ x ∧ x < nI ng) (1 ≤ y ∧ y ≤ σ 88 x.toNatClampNeg - 1)))))) (nX) 0 0 := by
  refine KI_of (own := RX6) (L0 := [some (.ref (ad 400)), some (.int x), some (.int y), none, none]) (by decide +kernel) rfl (catc rfl (catc rfl (catc rfl cat0))) (Nat.le_of_ble_eq_true rfl) rfl ?_
  intro p e s m args below meth c A hnm C
  have hS := hM
  obtain ⟨hm1, hm3, hm26, hm18, hnp, hnr, hng, hnb5, hb, hsc, hlc, hpa, hro, hof, hte⟩ := hM
  by_cases h_x : 0 ≤ x ∧ x < nI ng
  · obtain ⟨i, hi, rfl⟩ := ix_of (N := ng) (by omega) h_x
    rw [nI_clamp (by omega)]
    refine r_aload0 (pc := 0) C dX6_recut_0 ?_
    refine r_iload1 (pc := 1) C dX6_recut_1 ?_
    refine kX6_194 (pc := 2) C (c_X6_isPolished l D _ _ _ hT _ hm26) (hT.f (by decide)) rfl dX6_recut_2 (Nat.le_of_ble_eq_true rfl) (by decide) ?_
    rintro _ _ ⟨rfl, rfl⟩
    refine r_istore3 (pc := 5) C dX6_recut_5 ?_
    refine r_aload0 (pc := 6) C dX6_recut_6 ?_
    refine r_iload3 (pc := 7) C dX6_recut_7 ?_
    refine r_iload3 (pc := 8) C dX6_recut_8 ?_
    refine r_if_eq_b (pc := 9) C (tgt := 32) dX6_recut_9 (by decide) (fun c_9 => ?_) (fun c_9 => ?_)
    · refine r_iconst (pc := 32) C (v := 0) dX6_recut_32 (by decide) ?_
      refine kX6_124 (pc := 33) C (ask2 l D _ _ _ hT (0 ≤ (nI i) ∧ (nI i) < nI ng) (1 ≤ y ∧ y ≤ σ 88 i - 1) (by first | rfl | exact (bI_t (by with_reducible assumption)).symm | exact (bI_f (by with_reducible assumption)).symm | (refine (bI_t ?_).symm; and_intros <;> with_reducible assumption) | (refine (bI_f ?_).symm; rintro ⟨h1, h2⟩; first | exact absurd h1 (by with_reducible assumption) | exact absurd h2 (by with_reducible assumption)) | (refine (bI_f ?_).symm; rintro ⟨h1, h2, h3⟩; first | exact absurd h2 (by with_reducible assumption) | exact absurd h3 (by with_reducible assumption)) | exact bI_c (by grind) | exact (bI_t (by grind)).symm | exact (bI_f (by grind)).symm) (fun hP0 => by first | rfl | exact absurd hP0 (by with_reducible assumption) | (obtain ⟨hp1, hp2⟩ := hP0; first | exact absurd hp1 (by with_reducible assumption) | exact absurd hp2 (by with_reducible assumption)) | exact (bI_t (by with_reducible assumption)).symm | exact (bI_f (by with_reducible assumption)).symm | (refine (bI_t ?_).symm; and_intros <;> with_reducible assumption) | (refine (bI_f ?_).symm; rintro ⟨h1, h2⟩; first | exact absurd h1 (by with_reducible assumption) | exact absurd h2 (by with_reducible assumption)) | (refine (bI_f ?_).symm; rintro ⟨h1, h2, h3⟩; first | exact absurd h2 (by with_reducible assumption) | exact absurd h3 (by with_reducible assumption)) | exact bI_c (by grind) | exact (bI_t (by grind)).symm | exact (bI_f (by grind)).symm)) (hT.f (by decide)) rfl dX6_recut_33 (Nat.le_of_ble_eq_true rfl) (by decide) ?_
      rintro _ _ ⟨rfl, rfl⟩
      refine r_if_ne_b (pc := 36) C (tgt := 41) dX6_recut_36 (by decide) (fun c_36 => ?_) (fun c_36 => ?_)
      · have hok : (cd2 (0 ≤ (nI i) ∧ (nI i) < nI ng) (1 ≤ y ∧ y ≤ σ 88 i - 1)) = 0 := cd2_t c_36
        rw [hok]
        obtain ⟨τ, hτ⟩ : ∃ τ, up σ 60 0 0 = τ := ⟨_, rfl⟩
        rw [hτ]
        obtain ⟨hm1, hm3, hm26, hm18, hnp, hnr, hng, hnb5, hb, hsc, hlc, hpa, hro, hof, hte⟩ := (hτ ▸ ML_up 0 hS : ML nr ng np nb τ)
        obtain ⟨hP, hQ⟩ := c_36
        refine r_aload0 (pc := 41) C dX6_recut_41 ?_
        refine gX6_78 (pc := 42) C hT dX6_recut_42 ?_
        refine r_iload1 (pc := 45) C dX6_recut_45 ?_
        refine a428 (pc := 46) C hT rfl (by omega) dX6_recut_46 ?_
        refine r_iload2 (pc := 47) C dX6_recut_47 ?_
        refine r_isub (pc := 48) C dX6_recut_48 ?_
        refine r_istore4 (pc := 49) C dX6_recut_49 ?_
        refine r_aload0 (pc := 51) C dX6_recut_51 ?_
        refine gX6_78 (pc := 52) C hT dX6_recut_52 ?_
        refine r_iload1 (pc := 55) C dX6_recut_55 ?_
        refine r_iload2 (pc := 56) C dX6_recut_56 ?_
        refine b428 (pc := 57) C hT rfl (by omega) dX6_recut_57 ?_
        refine r_aload0 (pc := 58) C dX6_recut_58 ?_
        refine r_dup (pc := 59) C dX6_recut_59 rfl ?_
        refine gX6_191 (pc := 60) C hT dX6_recut_60 ?_
        rw [show (up τ 88 i y) 60 38 = τ 60 38 from rfl]
        refine r_iload4 (pc := 63) C dX6_recut_63 ?_
        refine r_iadd (pc := 65) C dX6_recut_65 ?_
        refine pX6_191 (pc := 66) C hT dX6_recut_66 ?_
        refine r_iload4 (pc := 69) C dX6_recut_69 ?_
        exact r_iret C rfl dX6_recut_71 (by first | exact ⟨fun q => absurd q hno, fun _ => ⟨rfl, rfl⟩⟩ | exact ⟨fun _ => ⟨rfl, rfl⟩, fun q => absurd rfl q⟩) (by decide) (by decide)
      · have hno : ¬ (cd2 (0 ≤ (nI i) ∧ (nI i) < nI ng) (1 ≤ y ∧ y ≤ σ 88 i - 1)) = 0 := cd2_f (by assumption)
        refine r_iconst (pc := 39) C (v := 0) dX6_recut_39 (by decide) ?_
        exact r_iret C rfl dX6_recut_40 (by first | exact ⟨fun q => absurd q hno, fun _ => ⟨rfl, rfl⟩⟩ | exact ⟨fun _ => ⟨rfl, rfl⟩, fun q => absurd rfl q⟩) (by decide) (by decide)
    · refine r_iload2 (pc := 12) C dX6_recut_12 ?_
      refine r_iconst (pc := 13) C (v := 1) dX6_recut_13 (by decide) ?_
      refine r_aload0 (pc := 14) C dX6_recut_14 ?_
      refine gX6_78 (pc := 15) C hT dX6_recut_15 ?_
      refine r_iload1 (pc := 18) C dX6_recut_18 ?_
      refine a428 (pc := 19) C hT rfl (by omega) dX6_recut_19 ?_
      refine r_iconst (pc := 20) C (v := 1) dX6_recut_20 (by decide) ?_
      refine r_isub (pc := 21) C dX6_recut_21 ?_
      refine kX6_114 (pc := 22) C (c_X6_in l D _ _ _ _) dX6_recut_22 (Nat.le_of_ble_eq_true rfl) (by decide) ?_
      rintro _ _ ⟨rfl, rfl⟩
      refine r_if_eq_b (pc := 25) C (tgt := 32) dX6_recut_25 (by decide) (fun c_25 => ?_) (fun c_25 => ?_)
      · refine r_iconst (pc := 32) C (v := 0) dX6_recut_32 (by decide) ?_
        refine kX6_124 (pc := 33) C (ask2 l D _ _ _ hT (0 ≤ (nI i) ∧ (nI i) < nI ng) (1 ≤ y ∧ y ≤ σ 88 i - 1) (by first | rfl | exact (bI_t (by with_reducible assumption)).symm | exact (bI_f (by with_reducible assumption)).symm | (refine (bI_t ?_).symm; and_intros <;> with_reducible assumption) | (refine (bI_f ?_).symm; rintro ⟨h1, h2⟩; first | exact absurd h1 (by with_reducible assumption) | exact absurd h2 (by with_reducible assumption)) | (refine (bI_f ?_).symm; rintro ⟨h1, h2, h3⟩; first | exact absurd h2 (by with_reducible assumption) | exact absurd h3 (by with_reducible assumption)) | exact bI_c (by grind) | exact (bI_t (by grind)).symm | exact (bI_f (by grind)).symm) (fun hP0 => by first | rfl | exact absurd hP0 (by with_reducible assumption) | (obtain ⟨hp1, hp2⟩ := hP0; first | exact absurd hp1 (by with_reducible assumption) | exact absurd hp2 (by with_reducible assumption)) | exact (bI_t (by with_reducible assumption)).symm | exact (bI_f (by with_reducible assumption)).symm | (refine (bI_t ?_).symm; and_intros <;> with_reducible assumption) | (refine (bI_f ?_).symm; rintro ⟨h1, h2⟩; first | exact absurd h1 (by with_reducible assumption) | exact absurd h2 (by with_reducible assumption)) | (refine (bI_f ?_).symm; rintro ⟨h1, h2, h3⟩; first | exact absurd h2 (by with_reducible assumption) | exact absurd h3 (by with_reducible assumption)) | exact bI_c (by grind) | exact (bI_t (by grind)).symm | exact (bI_f (by grind)).symm)) (hT.f (by decide)) rfl dX6_recut_33 (Nat.le_of_ble_eq_true rfl) (by decide) ?_
        rintro _ _ ⟨rfl, rfl⟩
        refine r_if_ne_b (pc := 36) C (tgt := 41) dX6_recut_36 (by decide) (fun c_36 => ?_) (fun c_36 => ?_)
        · have hok : (cd2 (0 ≤ (nI i) ∧ (nI i) < nI ng) (1 ≤ y ∧ y ≤ σ 88 i - 1)) = 0 := cd2_t c_36
          rw [hok]
          obtain ⟨τ, hτ⟩ : ∃ τ, up σ 60 0 0 = τ := ⟨_, rfl⟩
          rw [hτ]
          obtain ⟨hm1, hm3, hm26, hm18, hnp, hnr, hng, hnb5, hb, hsc, hlc, hpa, hro, hof, hte⟩ := (hτ ▸ ML_up 0 hS : ML nr ng np nb τ)
          obtain ⟨hP, hQ⟩ := c_36
          refine r_aload0 (pc := 41) C dX6_recut_41 ?_
          refine gX6_78 (pc := 42) C hT dX6_recut_42 ?_
          refine r_iload1 (pc := 45) C dX6_recut_45 ?_
          refine a428 (pc := 46) C hT rfl (by omega) dX6_recut_46 ?_
          refine r_iload2 (pc := 47) C dX6_recut_47 ?_
          refine r_isub (pc := 48) C dX6_recut_48 ?_
          refine r_istore4 (pc := 49) C dX6_recut_49 ?_
          refine r_aload0 (pc := 51) C dX6_recut_51 ?_
          refine gX6_78 (pc := 52) C hT dX6_recut_52 ?_
          refine r_iload1 (pc := 55) C dX6_recut_55 ?_
          refine r_iload2 (pc := 56) C dX6_recut_56 ?_
          refine b428 (pc := 57) C hT rfl (by omega) dX6_recut_57 ?_
          refine r_aload0 (pc := 58) C dX6_recut_58 ?_
          refine r_dup (pc := 59) C dX6_recut_59 rfl ?_
          refine gX6_191 (pc := 60) C hT dX6_recut_60 ?_
          rw [show (up τ 88 i y) 60 38 = τ 60 38 from rfl]
          refine r_iload4 (pc := 63) C dX6_recut_63 ?_
          refine r_iadd (pc := 65) C dX6_recut_65 ?_
          refine pX6_191 (pc := 66) C hT dX6_recut_66 ?_
          refine r_iload4 (pc := 69) C dX6_recut_69 ?_
          exact r_iret C rfl dX6_recut_71 (by first | exact ⟨fun q => absurd q hno, fun _ => ⟨rfl, rfl⟩⟩ | exact ⟨fun _ => ⟨rfl, rfl⟩, fun q => absurd rfl q⟩) (by decide) (by decide)
        · have hno : ¬ (cd2 (0 ≤ (nI i) ∧ (nI i) < nI ng) (1 ≤ y ∧ y ≤ σ 88 i - 1)) = 0 := cd2_f (by assumption)
          refine r_iconst (pc := 39) C (v := 0) dX6_recut_39 (by decide) ?_
          exact r_iret C rfl dX6_recut_40 (by first | exact ⟨fun q => absurd q hno, fun _ => ⟨rfl, rfl⟩⟩ | exact ⟨fun _ => ⟨rfl, rfl⟩, fun q => absurd rfl q⟩) (by decide) (by decide)
      · refine r_iconst (pc := 28) C (v := 1) dX6_recut_28 (by decide) ?_
        refine r_goto (pc := 29) C (tgt := 33) dX6_recut_29 (by decide) ?_
        refine kX6_124 (pc := 33) C (ask2 l D _ _ _ hT (0 ≤ (nI i) ∧ (nI i) < nI ng) (1 ≤ y ∧ y ≤ σ 88 i - 1) (by first | rfl | exact (bI_t (by with_reducible assumption)).symm | exact (bI_f (by with_reducible assumption)).symm | (refine (bI_t ?_).symm; and_intros <;> with_reducible assumption) | (refine (bI_f ?_).symm; rintro ⟨h1, h2⟩; first | exact absurd h1 (by with_reducible assumption) | exact absurd h2 (by with_reducible assumption)) | (refine (bI_f ?_).symm; rintro ⟨h1, h2, h3⟩; first | exact absurd h2 (by with_reducible assumption) | exact absurd h3 (by with_reducible assumption)) | exact bI_c (by grind) | exact (bI_t (by grind)).symm | exact (bI_f (by grind)).symm) (fun hP0 => by first | rfl | exact absurd hP0 (by with_reducible assumption) | (obtain ⟨hp1, hp2⟩ := hP0; first | exact absurd hp1 (by with_reducible assumption) | exact absurd hp2 (by with_reducible assumption)) | exact (bI_t (by with_reducible assumption)).symm | exact (bI_f (by with_reducible assumption)).symm | (refine (bI_t ?_).symm; and_intros <;> with_reducible assumption) | (refine (bI_f ?_).symm; rintro ⟨h1, h2⟩; first | exact absurd h1 (by with_reducible assumption) | exact absurd h2 (by with_reducible assumption)) | (refine (bI_f ?_).symm; rintro ⟨h1, h2, h3⟩; first | exact absurd h2 (by with_reducible assumption) | exact absurd h3 (by with_reducible assumption)) | exact bI_c (by grind) | exact (bI_t (by grind)).symm | exact (bI_f (by grind)).symm)) (hT.f (by decide)) rfl dX6_recut_33 (Nat.le_of_ble_eq_true rfl) (by decide) ?_
        rintro _ _ ⟨rfl, rfl⟩
        refine r_if_ne_b (pc := 36) C (tgt := 41) dX6_recut_36 (by decide) (fun c_36 => ?_) (fun c_36 => ?_)
        · have hok : (cd2 (0 ≤ (nI i) ∧ (nI i) < nI ng) (1 ≤ y ∧ y ≤ σ 88 i - 1)) = 0 := cd2_t c_36
          rw [hok]
          obtain ⟨τ, hτ⟩ : ∃ τ, up σ 60 0 0 = τ := ⟨_, rfl⟩
          rw [hτ]
          obtain ⟨hm1, hm3, hm26, hm18, hnp, hnr, hng, hnb5, hb, hsc, hlc, hpa, hro, hof, hte⟩ := (hτ ▸ ML_up 0 hS : ML nr ng np nb τ)
          obtain ⟨hP, hQ⟩ := c_36
          refine r_aload0 (pc := 41) C dX6_recut_41 ?_
          refine gX6_78 (pc := 42) C hT dX6_recut_42 ?_
          refine r_iload1 (pc := 45) C dX6_recut_45 ?_
          refine a428 (pc := 46) C hT rfl (by omega) dX6_recut_46 ?_
          refine r_iload2 (pc := 47) C dX6_recut_47 ?_
          refine r_isub (pc := 48) C dX6_recut_48 ?_
          refine r_istore4 (pc := 49) C dX6_recut_49 ?_
          refine r_aload0 (pc := 51) C dX6_recut_51 ?_
          refine gX6_78 (pc := 52) C hT dX6_recut_52 ?_
          refine r_iload1 (pc := 55) C dX6_recut_55 ?_
          refine r_iload2 (pc := 56) C dX6_recut_56 ?_
          refine b428 (pc := 57) C hT rfl (by omega) dX6_recut_57 ?_
          refine r_aload0 (pc := 58) C dX6_recut_58 ?_
          refine r_dup (pc := 59) C dX6_recut_59 rfl ?_
          refine gX6_191 (pc := 60) C hT dX6_recut_60 ?_
          rw [show (up τ 88 i y) 60 38 = τ 60 38 from rfl]
          refine r_iload4 (pc := 63) C dX6_recut_63 ?_
          refine r_iadd (pc := 65) C dX6_recut_65 ?_
          refine pX6_191 (pc := 66) C hT dX6_recut_66 ?_
          refine r_iload4 (pc := 69) C dX6_recut_69 ?_
          exact r_iret C rfl dX6_recut_71 (by first | exact ⟨fun q => absurd q hno, fun _ => ⟨rfl, rfl⟩⟩ | exact ⟨fun _ => ⟨rfl, rfl⟩, fun q => absurd rfl q⟩) (by decide) (by decide)
        · have hno : ¬ (cd2 (0 ≤ (nI i) ∧ (nI i) < nI ng) (1 ≤ y ∧ y ≤ σ 88 i - 1)) = 0 := cd2_f (by assumption)
          refine r_iconst (pc := 39) C (v := 0) dX6_recut_39 (by decide) ?_
          exact r_iret C rfl dX6_recut_40 (by first | exact ⟨fun q => absurd q hno, fun _ => ⟨rfl, rfl⟩⟩ | exact ⟨fun _ => ⟨rfl, rfl⟩, fun q => absurd rfl q⟩) (by decide) (by decide)
  · refine r_aload0 (pc := 0) C dX6_recut_0 ?_
    refine r_iload1 (pc := 1) C dX6_recut_1 ?_
    refine kX6_194 (pc := 2) C (c_X6_isPolished l D _ _ _ hT _ hm26) (hT.f (by decide)) rfl dX6_recut_2 (Nat.le_of_ble_eq_true rfl) (by decide) ?_
    rintro _ _ ⟨rfl, rfl⟩
    refine r_istore3 (pc := 5) C dX6_recut_5 ?_
    refine r_aload0 (pc := 6) C dX6_recut_6 ?_
    refine r_iload3 (pc := 7) C dX6_recut_7 ?_
    refine r_iload3 (pc := 8) C dX6_recut_8 ?_
    refine r_if_eq_b (pc := 9) C (tgt := 32) dX6_recut_9 (by decide) (fun c_9 => ?_) (fun c_9 => ?_)
    · refine r_iconst (pc := 32) C (v := 0) dX6_recut_32 (by decide) ?_
      refine kX6_124 (pc := 33) C (ask2 l D _ _ _ hT (0 ≤ x ∧ x < nI ng) (1 ≤ y ∧ y ≤ σ 88 x.toNatClampNeg - 1) (by first | rfl | exact (bI_t (by with_reducible assumption)).symm | exact (bI_f (by with_reducible assumption)).symm | (refine (bI_t ?_).symm; and_intros <;> with_reducible assumption) | (refine (bI_f ?_).symm; rintro ⟨h1, h2⟩; first | exact absurd h1 (by with_reducible assumption) | exact absurd h2 (by with_reducible assumption)) | (refine (bI_f ?_).symm; rintro ⟨h1, h2, h3⟩; first | exact absurd h2 (by with_reducible assumption) | exact absurd h3 (by with_reducible assumption)) | exact bI_c (by grind) | exact (bI_t (by grind)).symm | exact (bI_f (by grind)).symm) (fun hP0 => by first | rfl | exact absurd hP0 (by with_reducible assumption) | (obtain ⟨hp1, hp2⟩ := hP0; first | exact absurd hp1 (by with_reducible assumption) | exact absurd hp2 (by with_reducible assumption)) | exact (bI_t (by with_reducible assumption)).symm | exact (bI_f (by with_reducible assumption)).symm | (refine (bI_t ?_).symm; and_intros <;> with_reducible assumption) | (refine (bI_f ?_).symm; rintro ⟨h1, h2⟩; first | exact absurd h1 (by with_reducible assumption) | exact absurd h2 (by with_reducible assumption)) | (refine (bI_f ?_).symm; rintro ⟨h1, h2, h3⟩; first | exact absurd h2 (by with_reducible assumption) | exact absurd h3 (by with_reducible assumption)) | exact bI_c (by grind) | exact (bI_t (by grind)).symm | exact (bI_f (by grind)).symm)) (hT.f (by decide)) rfl dX6_recut_33 (Nat.le_of_ble_eq_true rfl) (by decide) ?_
      rintro _ _ ⟨rfl, rfl⟩
      refine r_if_ne_b (pc := 36) C (tgt := 41) dX6_recut_36 (by decide) (fun c_36 => ?_) (fun c_36 => ?_)
      · first | exact absurd c_36.1 h_x | exact absurd c_36.1.2 h_x | exact absurd c_36.1.1 h_x | (exfalso; grind)
      · have hno : ¬ (cd2 (0 ≤ x ∧ x < nI ng) (1 ≤ y ∧ y ≤ σ 88 x.toNatClampNeg - 1)) = 0 := cd2_f (by assumption)
        refine r_iconst (pc := 39) C (v := 0) dX6_recut_39 (by decide) ?_
        exact r_iret C rfl dX6_recut_40 (by first | exact ⟨fun q => absurd q hno, fun _ => ⟨rfl, rfl⟩⟩ | exact ⟨fun _ => ⟨rfl, rfl⟩, fun q => absurd rfl q⟩) (by decide) (by decide)
    · exact absurd c_9 h_x


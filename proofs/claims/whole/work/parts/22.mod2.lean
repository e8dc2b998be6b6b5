def frM (fl x : Int32) : Prop := 0 ≤ x ∧ x < 12 ∧ (fl >>> (x &&& 31)) &&& 1 = 0
theorem fr_n (fl : Int32) {k : Nat} (hk : k < 2 ^ 31) : frM fl (nI k) ↔ (k < 12 ∧ clr fl k) := by
  have h0 : (0 : Int32) ≤ nI k := by
    have := (nI_leI (a := 0) (b := k) (by decide) hk).mpr (Nat.zero_le k); exact this
  have h1 : nI k < 12 ↔ k < 12 := by
    have := nI_ltI (a := k) (b := 12) hk (by decide); exact this
  unfold frM clr
  rw [h1]
  exact ⟨fun q => q.2, fun q => ⟨h0, q⟩⟩
theorem fr_p (fl : Int32) {k : Nat} (hk : k < 2 ^ 31) : frM fl (nI k - 1) ↔ (0 < k ∧ k - 1 < 12 ∧ clr fl (k - 1)) := by
  rcases (show k = 0 ∨ 0 < k by omega) with q | q
  · subst q
    exact ⟨fun h => absurd h.1 (by decide), fun h => absurd h.1 (by omega)⟩
  · rw [show nI k - 1 = nI (k - 1) from pk_sub (b := 1) q, fr_n fl (by omega)]
    exact ⟨fun h => ⟨q, h⟩, fun h => h.2⟩
set_option maxRecDepth 100000 in
set_option maxHeartbeats 4000000 in
theorem c_X6_isFree (l : Launch) (D : Gt) (T : List Nat) (ad : Nat → Nat) (σ : Mm) {nr ng : Nat} (hT : TG nr ng T) {s0 : Nat} (hs : s0 < 40) (x : Int32) : KI D l yX6_isFree (uws yX6_isFree cX6_isFree 3 (some .boolean)) (RM 2 0 0) [.ref (ad 400), .int (nI s0), .int x] (T, ad, cO D ad σ) (fun r S1 => r = bI (frM (σ 68 s0) x) ∧ S1 = (T, ad, cO D ad σ)) (nX) 0 0 := by
  refine KI_of (own := RX6) (L0 := [some (.ref (ad 400)), some (.int (nI s0)), some (.int x)]) (by decide +kernel) rfl (catc rfl (catc rfl (catc rfl cat0))) (Nat.le_of_ble_eq_true rfl) rfl ?_
  intro p e s m args below meth c A hnm C
  refine r_iload2 (pc := 0) C dX6_isFree_0 ?_
  refine r_iconst (pc := 1) C (v := 0) dX6_isFree_1 (by decide) ?_
  refine r_bipush (pc := 2) C (v := 11) dX6_isFree_2 (by decide) ?_
  refine kX6_114 (pc := 4) C (c_X6_in l D _ _ _ _) dX6_isFree_4 (Nat.le_of_ble_eq_true rfl) (by decide) ?_
  rintro _ _ ⟨rfl, rfl⟩
  refine r_if_eq_b (pc := 7) C (tgt := 27) dX6_isFree_7 (by decide) (fun c_7 => ?_) (fun c_7 => ?_)
  · refine r_iconst (pc := 27) C (v := 0) dX6_isFree_27 (by decide) ?_
    exact r_zret C rfl rfl dX6_isFree_28 (by first | exact ⟨(bI_t (by unfold frM; grind)).symm, rfl⟩ | exact ⟨(bI_f (by unfold frM; grind)).symm, rfl⟩) (by decide) (by decide)
  · refine r_aload0 (pc := 10) C dX6_isFree_10 ?_
    refine gX6_25 (pc := 11) C hT dX6_isFree_11 ?_
    refine r_iload1 (pc := 14) C dX6_isFree_14 ?_
    refine a408 (pc := 15) C hT rfl (by omega) dX6_isFree_15 ?_
    refine r_iload2 (pc := 16) C dX6_isFree_16 ?_
    refine r_ishr (pc := 17) C dX6_isFree_17 ?_
    refine r_iconst (pc := 18) C (v := 1) dX6_isFree_18 (by decide) ?_
    refine r_iand (pc := 19) C dX6_isFree_19 ?_
    refine r_if_ne (pc := 20) C (tgt := 27) dX6_isFree_20 (by decide) (fun c_20 => ?_) (fun c_20 => ?_)
    · refine r_iconst (pc := 27) C (v := 0) dX6_isFree_27 (by decide) ?_
      exact r_zret C rfl rfl dX6_isFree_28 (by first | exact ⟨(bI_t (by unfold frM; grind)).symm, rfl⟩ | exact ⟨(bI_f (by unfold frM; grind)).symm, rfl⟩) (by decide) (by decide)
    · refine r_iconst (pc := 23) C (v := 1) dX6_isFree_23 (by decide) ?_
      refine r_goto (pc := 24) C (tgt := 28) dX6_isFree_24 (by decide) ?_
      exact r_zret C rfl rfl dX6_isFree_28 (by first | exact ⟨(bI_t (by unfold frM; grind)).symm, rfl⟩ | exact ⟨(bI_f (by unfold frM; grind)).symm, rfl⟩) (by decide) (by decide)

set_option maxRecDepth 100000 in
set_option maxHeartbeats 4000000 in
theorem c_X6_rowAt (l : Launch) (D : Gt) (T : List Nat) (ad : Nat → Nat) (σ : Mm) {nr ng : Nat} (hT : TG nr ng T) {s0 : Nat} (hs : s0 < 40) {k : Nat} (hk12 : k < 12) : KI D l yX6_rowAt (uws yX6_rowAt cX6_rowAt 4 (some .int)) (RM 3 0 0) [.ref (ad 400), .int (nI s0), .int (nI k)] (T, ad, cO D ad σ) (fun r S1 => r = nI (plN (σ 68 s0) k) ∧ S1 = (T, ad, cO D ad σ)) (nX) 0 0 := by
  refine KI_of (own := RX6) (L0 := [some (.ref (ad 400)), some (.int (nI s0)), some (.int (nI k)), none]) (by decide +kernel) rfl (catc rfl (catc rfl (catc rfl cat0))) (Nat.le_of_ble_eq_true rfl) rfl ?_
  intro p e s m args below meth c A hnm C
  have h13 : endC (σ 68 s0) 13 k = endC (σ 68 s0) 12 k := endC_fuel (σ 68 s0) 13 12 k (by omega) (by omega) (by omega)
  have loop : ∀ (f n : Nat), k + n ≤ 12 → 12 < k + n + f → endC (σ 68 s0) f (k + n) = endC (σ 68 s0) 12 k → V D A 4 (T, ad, cO D ad σ) p l e (RM 3 0 0) s m args below meth c 0 0 (vx_MQ below (va_Qi (fun r S1 => r = nI (plN (σ 68 s0) k) ∧ S1 = (T, ad, cO D ad σ)) (PoB D A) A) (XCs D (T, ad, cO D ad σ) A (nX)) args s 0 0 A) 2 [some (.ref (ad 400)), some (.int (nI s0)), some (.int (nI k)), some (.int (nI n))] [] := by
    intro f
    induction f with
    | zero => intro n h1 h2; omega
    | succ f ih =>
      intro n h1 h2 he
      have hk2 : nI n + 1 = nI (n + 1) := nI_1 n
      refine r_aload0 (pc := 2) C dX6_rowAt_2 ?_
      refine r_iload1 (pc := 3) C dX6_rowAt_3 ?_
      refine r_iload2 (pc := 4) C dX6_rowAt_4 ?_
      refine r_iload3 (pc := 5) C dX6_rowAt_5 ?_
      refine r_iadd (pc := 6) C dX6_rowAt_6 ?_
      rw [show nI k + nI n = nI (k + n) from nI_add k n]
      refine kX6_181 (pc := 7) C (c_X6_isFree l D _ _ _ hT hs _) (hT.f (by decide)) rfl dX6_rowAt_7 (Nat.le_of_ble_eq_true rfl) (by decide) ?_
      rintro _ _ ⟨rfl, rfl⟩
      refine r_if_eq_b (pc := 10) C (tgt := 19) dX6_rowAt_10 (by decide) (fun c_10 => ?_) (fun c_10 => ?_)
      · have hnf : ¬ (k + n < 12 ∧ clr (σ 68 s0) (k + n)) := fun q => absurd ((fr_n (σ 68 s0) (k := k + n) (by omega)).mpr q) (by assumption)
        have hend : endC (σ 68 s0) 12 k = k + n := by rw [← he]; exact iF_f hnf
        have hfp := fr_p (σ 68 s0) (k := k) (by omega)
        refine r_aload0 (pc := 19) C dX6_rowAt_19 ?_
        refine r_iload1 (pc := 20) C dX6_rowAt_20 ?_
        refine r_iload2 (pc := 21) C dX6_rowAt_21 ?_
        refine r_iconst (pc := 22) C (v := 1) dX6_rowAt_22 (by decide) ?_
        refine r_isub (pc := 23) C dX6_rowAt_23 ?_
        refine kX6_181 (pc := 24) C (c_X6_isFree l D _ _ _ hT hs _) (hT.f (by decide)) rfl dX6_rowAt_24 (Nat.le_of_ble_eq_true rfl) (by decide) ?_
        rintro _ _ ⟨rfl, rfl⟩
        refine r_if_ne_b (pc := 27) C (tgt := 35) dX6_rowAt_27 (by decide) (fun c_27 => ?_) (fun c_27 => ?_)
        · refine r_iconst (pc := 35) C (v := 0) dX6_rowAt_35 (by decide) ?_
          refine r_goto (pc := 36) C (tgt := 40) dX6_rowAt_36 (by decide) ?_
          exact r_iret C rfl dX6_rowAt_40 (⟨by rw [plN]; first | (rw [iF_t (by grind)]; rfl) | (rw [iF_f (by grind), hend, show k + n - k = n by omega]; unfold ww; first | rw [if_pos (by omega)] | (rw [if_neg (by omega)]; rfl)), rfl⟩) (by decide) (by decide)
        · refine r_iload3 (pc := 30) C dX6_rowAt_30 ?_
          refine r_iconst (pc := 31) C (v := nI 2) dX6_rowAt_31 (by decide) ?_
          refine r_icmp_geN (pc := 32) C (tgt := 39) dX6_rowAt_32 (by decide) (by omega) (by omega) (fun c_32 => ?_) (fun c_32 => ?_)
          · refine r_iload3 (pc := 39) C dX6_rowAt_39 ?_
            exact r_iret C rfl dX6_rowAt_40 (⟨by rw [plN]; first | (rw [iF_t (by grind)]; rfl) | (rw [iF_f (by grind), hend, show k + n - k = n by omega]; unfold ww; first | rw [if_pos (by omega)] | (rw [if_neg (by omega)]; rfl)), rfl⟩) (by decide) (by decide)
          · refine r_iconst (pc := 35) C (v := 0) dX6_rowAt_35 (by decide) ?_
            refine r_goto (pc := 36) C (tgt := 40) dX6_rowAt_36 (by decide) ?_
            exact r_iret C rfl dX6_rowAt_40 (⟨by rw [plN]; first | (rw [iF_t (by grind)]; rfl) | (rw [iF_f (by grind), hend, show k + n - k = n by omega]; unfold ww; first | rw [if_pos (by omega)] | (rw [if_neg (by omega)]; rfl)), rfl⟩) (by decide) (by decide)
      · refine r_iinc3 (pc := 13) C dX6_rowAt_13 hk2 ?_
        refine r_goto (pc := 16) C (tgt := 2) dX6_rowAt_16 (by decide) ?_
        have hfn := (fr_n (σ 68 s0) (k := k + n) (by omega)).mp (by assumption)
        have e1 : endC (σ 68 s0) (f + 1) (k + n) = endC (σ 68 s0) f (k + n + 1) := iF_t hfn
        exact ih (n + 1) (by omega) (by omega) (e1.symm.trans he)
  refine r_iconst (pc := 0) C (v := 0) dX6_rowAt_0 (by decide) ?_
  refine r_istore3 (pc := 1) C dX6_rowAt_1 ?_
  exact loop 13 0 (by omega) (by omega) h13

set_option maxRecDepth 100000 in
set_option maxHeartbeats 4000000 in
theorem c_X6_planOf (l : Launch) (D : Gt) (T : List Nat) (ad : Nat → Nat) (σ : Mm) {nr ng : Nat} (hT : TG nr ng T) {s0 : Nat} (hs : s0 < 40) : KI D l yX6_planOf (uws yX6_planOf cX6_planOf 4 (some .int)) (RM 4 0 0) [.ref (ad 400), .int (nI s0)] (T, ad, cO D ad σ) (fun r S1 => r = nI (plS (σ 68 s0) 12) ∧ S1 = (T, ad, cO D ad σ)) (nX) 0 0 := by
  refine KI_of (own := RX6) (L0 := [some (.ref (ad 400)), some (.int (nI s0)), none, none]) (by decide +kernel) rfl (catc rfl (catc rfl cat0)) (Nat.le_of_ble_eq_true rfl) rfl ?_
  intro p e s m args below meth c A hnm C
  have loop : ∀ (z k : Nat), k ≤ 12 → 12 < k + z → V D A 4 (T, ad, cO D ad σ) p l e (RM 4 0 0) s m args below meth c 0 0 (vx_MQ below (va_Qi (fun r S1 => r = nI (plS (σ 68 s0) 12) ∧ S1 = (T, ad, cO D ad σ)) (PoB D A) A) (XCs D (T, ad, cO D ad σ) A (nX)) args s 0 0 A) 4 [some (.ref (ad 400)), some (.int (nI s0)), some (.int (nI (plS (σ 68 s0) k))), some (.int (nI k))] [] := by
    intro z
    induction z with
    | zero => intro k h1 h2; omega
    | succ z ih =>
      intro k h1 h2
      have hk : nI k + 1 = nI (k + 1) := nI_1 k
      refine r_iload3 (pc := 4) C dX6_planOf_4 ?_
      refine r_bipush (pc := 5) C (v := nI 12) dX6_planOf_5 (by decide) ?_
      refine r_icmp_geN (pc := 7) C (tgt := 32) dX6_planOf_7 (by decide) (by omega) (by omega) (fun c_7 => ?_) (fun c_7 => ?_)
      · refine r_iload2 (pc := 32) C dX6_planOf_32 ?_
        exact r_iret C rfl dX6_planOf_33 (⟨by rw [show k = 12 by omega], rfl⟩) (by decide) (by decide)
      · refine r_iload2 (pc := 10) C dX6_planOf_10 ?_
        refine r_aload0 (pc := 11) C dX6_planOf_11 ?_
        refine r_iload1 (pc := 12) C dX6_planOf_12 ?_
        refine r_iload3 (pc := 13) C dX6_planOf_13 ?_
        refine kX6_185 (pc := 14) C (c_X6_rowAt l D _ _ _ hT hs (by omega)) (hT.f (by decide)) rfl dX6_planOf_14 (Nat.le_of_ble_eq_true rfl) (by decide) ?_
        rintro _ _ ⟨rfl, rfl⟩
        refine r_aload0 (pc := 17) C dX6_planOf_17 ?_
        refine r_iload1 (pc := 18) C dX6_planOf_18 ?_
        refine r_iload3 (pc := 19) C dX6_planOf_19 ?_
        refine kX6_185 (pc := 20) C (c_X6_rowAt l D _ _ _ hT hs (by omega)) (hT.f (by decide)) rfl dX6_planOf_20 (Nat.le_of_ble_eq_true rfl) (by decide) ?_
        rintro _ _ ⟨rfl, rfl⟩
        refine r_imul (pc := 23) C dX6_planOf_23 ?_
        refine r_iadd (pc := 24) C dX6_planOf_24 ?_
        rw [show nI (plN (σ 68 s0) k) * nI (plN (σ 68 s0) k) = nI (plN (σ 68 s0) k * plN (σ 68 s0) k) from pk_mul _ _, show nI (plS (σ 68 s0) k) + nI (plN (σ 68 s0) k * plN (σ 68 s0) k) = nI (plS (σ 68 s0) (k + 1)) from nI_add _ _]
        refine r_istore2 (pc := 25) C dX6_planOf_25 ?_
        refine r_iinc3 (pc := 26) C dX6_planOf_26 hk ?_
        refine r_goto (pc := 29) C (tgt := 4) dX6_planOf_29 (by decide) ?_
        exact ih (k + 1) (by omega) (by omega)
  refine r_iconst (pc := 0) C (v := 0) dX6_planOf_0 (by decide) ?_
  refine r_istore2 (pc := 1) C dX6_planOf_1 ?_
  refine r_iconst (pc := 2) C (v := 0) dX6_planOf_2 (by decide) ?_
  refine r_istore3 (pc := 3) C dX6_planOf_3 ?_
  exact loop 13 0 (by omega) (by omega)

set_option maxRecDepth 100000 in
set_option maxHeartbeats 4000000 in
theorem c_X6_gradeOf (l : Launch) (D : Gt) (T : List Nat) (ad : Nat → Nat) (σ : Mm) {nr ng : Nat} (hT : TG nr ng T) {s0 : Nat} (hs : s0 < 80) (hn3 : σ 93 s0 ≤ 3) : KI D l yX6_gradeOf (uws yX6_gradeOf cX6_gradeOf 4 (some .int)) (RM 2 0 0) [.ref (ad 400), .int (nI s0)] (T, ad, cO D ad σ) (fun r S1 => r = gradeM σ s0 ∧ S1 = (T, ad, cO D ad σ)) (nX) 0 0 := by
  refine KI_of (own := RX6) (L0 := [some (.ref (ad 400)), some (.int (nI s0)), none, none]) (by decide +kernel) rfl (catc rfl (catc rfl cat0)) (Nat.le_of_ble_eq_true rfl) rfl ?_
  intro p e s m args below meth c A hnm C
  refine r_aload0 (pc := 0) C dX6_gradeOf_0 ?_
  refine gX6_96 (pc := 1) C hT dX6_gradeOf_1 ?_
  refine r_iconst (pc := 4) C (v := 3) dX6_gradeOf_4 (by decide) ?_
  refine r_iload1 (pc := 5) C dX6_gradeOf_5 ?_
  refine r_imul (pc := 6) C dX6_gradeOf_6 ?_
  refine a434 (pc := 7) C hT (ix3 s0) (by omega) dX6_gradeOf_7 ?_
  refine r_istore2 (pc := 8) C dX6_gradeOf_8 ?_
  refine r_aload0 (pc := 9) C dX6_gradeOf_9 ?_
  refine gX6_96 (pc := 10) C hT dX6_gradeOf_10 ?_
  refine r_iconst (pc := 13) C (v := 3) dX6_gradeOf_13 (by decide) ?_
  refine r_iload1 (pc := 14) C dX6_gradeOf_14 ?_
  refine r_imul (pc := 15) C dX6_gradeOf_15 ?_
  refine r_iconst (pc := 16) C (v := 1) dX6_gradeOf_16 (by decide) ?_
  refine r_iadd (pc := 17) C dX6_gradeOf_17 ?_
  refine a434 (pc := 18) C hT (ix31 s0) (by omega) dX6_gradeOf_18 ?_
  refine r_istore3 (pc := 19) C dX6_gradeOf_19 ?_
  refine r_aload0 (pc := 20) C dX6_gradeOf_20 ?_
  refine gX6_93 (pc := 21) C hT dX6_gradeOf_21 ?_
  refine r_iload1 (pc := 24) C dX6_gradeOf_24 ?_
  refine a433 (pc := 25) C hT rfl (by omega) dX6_gradeOf_25 ?_
  refine r_iconst (pc := 26) C (v := 1) dX6_gradeOf_26 (by decide) ?_
  refine r_icmp_le (pc := 27) C (tgt := 39) dX6_gradeOf_27 (by decide) (fun c_27 => ?_) (fun c_27 => ?_)
  · refine r_aload0 (pc := 39) C dX6_gradeOf_39 ?_
    refine gX6_93 (pc := 40) C hT dX6_gradeOf_40 ?_
    refine r_iload1 (pc := 43) C dX6_gradeOf_43 ?_
    refine a433 (pc := 44) C hT rfl (by omega) dX6_gradeOf_44 ?_
    refine r_iconst (pc := 45) C (v := 3) dX6_gradeOf_45 (by decide) ?_
    refine r_icmp_ne (pc := 46) C (tgt := 67) dX6_gradeOf_46 (by decide) (fun c_46 => ?_) (fun c_46 => ?_)
    · refine r_iconst (pc := 67) C (v := (-1)) dX6_gradeOf_67 (by decide) ?_
      exact r_iret C rfl dX6_gradeOf_68 (⟨by unfold gradeM gradeS; first | exact (iF_t (by grind)).symm | (rw [iF_f (by grind)]; first | exact (iF_t (by grind)).symm | exact (iF_f (by grind)).symm), rfl⟩) (by decide) (by decide)
    · refine r_iload2 (pc := 49) C dX6_gradeOf_49 ?_
      refine r_iload3 (pc := 50) C dX6_gradeOf_50 ?_
      refine r_aload0 (pc := 51) C dX6_gradeOf_51 ?_
      refine gX6_96 (pc := 52) C hT dX6_gradeOf_52 ?_
      refine r_iconst (pc := 55) C (v := 3) dX6_gradeOf_55 (by decide) ?_
      refine r_iload1 (pc := 56) C dX6_gradeOf_56 ?_
      refine r_imul (pc := 57) C dX6_gradeOf_57 ?_
      refine r_iconst (pc := 58) C (v := 2) dX6_gradeOf_58 (by decide) ?_
      refine r_iadd (pc := 59) C dX6_gradeOf_59 ?_
      refine a434 (pc := 60) C hT (ix32 s0) (by omega) dX6_gradeOf_60 ?_
      refine kX6_139 (pc := 61) C (c_X6_middle l D _ _ _ _) dX6_gradeOf_61 (Nat.le_of_ble_eq_true rfl) (by decide) ?_
      rintro _ _ ⟨rfl, rfl⟩
      refine r_goto (pc := 64) C (tgt := 68) dX6_gradeOf_64 (by decide) ?_
      exact r_iret C rfl dX6_gradeOf_68 (⟨by unfold gradeM gradeS; first | exact (iF_t (by grind)).symm | (rw [iF_f (by grind)]; first | exact (iF_t (by grind)).symm | exact (iF_f (by grind)).symm), rfl⟩) (by decide) (by decide)
  · refine r_iload2 (pc := 30) C dX6_gradeOf_30 ?_
    refine r_iload3 (pc := 31) C dX6_gradeOf_31 ?_
    refine r_icmp_ne (pc := 32) C (tgt := 39) dX6_gradeOf_32 (by decide) (fun c_32 => ?_) (fun c_32 => ?_)
    · refine r_aload0 (pc := 39) C dX6_gradeOf_39 ?_
      refine gX6_93 (pc := 40) C hT dX6_gradeOf_40 ?_
      refine r_iload1 (pc := 43) C dX6_gradeOf_43 ?_
      refine a433 (pc := 44) C hT rfl (by omega) dX6_gradeOf_44 ?_
      refine r_iconst (pc := 45) C (v := 3) dX6_gradeOf_45 (by decide) ?_
      refine r_icmp_ne (pc := 46) C (tgt := 67) dX6_gradeOf_46 (by decide) (fun c_46 => ?_) (fun c_46 => ?_)
      · refine r_iconst (pc := 67) C (v := (-1)) dX6_gradeOf_67 (by decide) ?_
        exact r_iret C rfl dX6_gradeOf_68 (⟨by unfold gradeM gradeS; first | exact (iF_t (by grind)).symm | (rw [iF_f (by grind)]; first | exact (iF_t (by grind)).symm | exact (iF_f (by grind)).symm), rfl⟩) (by decide) (by decide)
      · refine r_iload2 (pc := 49) C dX6_gradeOf_49 ?_
        refine r_iload3 (pc := 50) C dX6_gradeOf_50 ?_
        refine r_aload0 (pc := 51) C dX6_gradeOf_51 ?_
        refine gX6_96 (pc := 52) C hT dX6_gradeOf_52 ?_
        refine r_iconst (pc := 55) C (v := 3) dX6_gradeOf_55 (by decide) ?_
        refine r_iload1 (pc := 56) C dX6_gradeOf_56 ?_
        refine r_imul (pc := 57) C dX6_gradeOf_57 ?_
        refine r_iconst (pc := 58) C (v := 2) dX6_gradeOf_58 (by decide) ?_
        refine r_iadd (pc := 59) C dX6_gradeOf_59 ?_
        refine a434 (pc := 60) C hT (ix32 s0) (by omega) dX6_gradeOf_60 ?_
        refine kX6_139 (pc := 61) C (c_X6_middle l D _ _ _ _) dX6_gradeOf_61 (Nat.le_of_ble_eq_true rfl) (by decide) ?_
        rintro _ _ ⟨rfl, rfl⟩
        refine r_goto (pc := 64) C (tgt := 68) dX6_gradeOf_64 (by decide) ?_
        exact r_iret C rfl dX6_gradeOf_68 (⟨by unfold gradeM gradeS; first | exact (iF_t (by grind)).symm | (rw [iF_f (by grind)]; first | exact (iF_t (by grind)).symm | exact (iF_f (by grind)).symm), rfl⟩) (by decide) (by decide)
    · refine r_iload2 (pc := 35) C dX6_gradeOf_35 ?_
      refine r_goto (pc := 36) C (tgt := 68) dX6_gradeOf_36 (by decide) ?_
      exact r_iret C rfl dX6_gradeOf_68 (⟨by unfold gradeM gradeS; first | exact (iF_t (by grind)).symm | (rw [iF_f (by grind)]; first | exact (iF_t (by grind)).symm | exact (iF_f (by grind)).symm), rfl⟩) (by decide) (by decide)

set_option maxRecDepth 100000 in
set_option maxHeartbeats 4000000 in
theorem c_X6_priceOf (l : Launch) (D : Gt) (T : List Nat) (ad : Nat → Nat) (σ : Mm) {nr ng : Nat} (hT : TG nr ng T) {s0 : Nat} (hs : s0 < 80) (hn3 : σ 93 s0 ≤ 3) : KI D l yX6_priceOf (uws yX6_priceOf cX6_priceOf 3 (some .int)) (RM 3 0 0) [.ref (ad 400), .int (nI s0)] (T, ad, cO D ad σ) (fun r S1 => r = gpS (σ 88 s0) (gradeM σ s0) ∧ S1 = (T, ad, cO D ad σ)) (nX) 0 0 := by
  refine KI_of (own := RX6) (L0 := [some (.ref (ad 400)), some (.int (nI s0)), none]) (by decide +kernel) rfl (catc rfl (catc rfl cat0)) (Nat.le_of_ble_eq_true rfl) rfl ?_
  intro p e s m args below meth c A hnm C
  refine r_aload0 (pc := 0) C dX6_priceOf_0 ?_
  refine gX6_78 (pc := 1) C hT dX6_priceOf_1 ?_
  refine r_iload1 (pc := 4) C dX6_priceOf_4 ?_
  refine a428 (pc := 5) C hT rfl (by omega) dX6_priceOf_5 ?_
  refine r_bipush (pc := 6) C (v := 20) dX6_priceOf_6 (by decide) ?_
  refine r_aload0 (pc := 8) C dX6_priceOf_8 ?_
  refine r_iload1 (pc := 9) C dX6_priceOf_9 ?_
  refine kX6_197 (pc := 10) C (c_X6_gradeOf l D _ _ _ hT hs hn3) (hT.f (by decide)) rfl dX6_priceOf_10 (Nat.le_of_ble_eq_true rfl) (by decide) ?_
  rintro _ _ ⟨rfl, rfl⟩
  refine r_isub (pc := 13) C dX6_priceOf_13 ?_
  refine r_imul (pc := 14) C dX6_priceOf_14 ?_
  refine r_istore2 (pc := 15) C dX6_priceOf_15 ?_
  refine r_aload0 (pc := 16) C dX6_priceOf_16 ?_
  refine r_iload1 (pc := 17) C dX6_priceOf_17 ?_
  refine kX6_197 (pc := 18) C (c_X6_gradeOf l D _ _ _ hT hs hn3) (hT.f (by decide)) rfl dX6_priceOf_18 (Nat.le_of_ble_eq_true rfl) (by decide) ?_
  rintro _ _ ⟨rfl, rfl⟩
  refine r_iconst (pc := 21) C (v := (-1)) dX6_priceOf_21 (by decide) ?_
  refine r_icmp_ne (pc := 22) C (tgt := 29) dX6_priceOf_22 (by decide) (fun c_22 => ?_) (fun c_22 => ?_)
  · refine r_aload0 (pc := 29) C dX6_priceOf_29 ?_
    refine gX6_78 (pc := 30) C hT dX6_priceOf_30 ?_
    refine r_iload1 (pc := 33) C dX6_priceOf_33 ?_
    refine a428 (pc := 34) C hT rfl (by omega) dX6_priceOf_34 ?_
    refine r_bipush (pc := 35) C (v := 100) dX6_priceOf_35 (by decide) ?_
    refine r_icmp_ge (pc := 37) C (tgt := 44) dX6_priceOf_37 (by decide) (fun c_37 => ?_) (fun c_37 => ?_)
    · refine r_iconst (pc := 44) C (v := 2) dX6_priceOf_44 (by decide) ?_
      refine r_iload2 (pc := 45) C dX6_priceOf_45 ?_
      refine r_imul (pc := 46) C dX6_priceOf_46 ?_
      exact r_iret C rfl dX6_priceOf_47 (⟨by unfold gpS; first | exact (iF_t (by grind)).symm | (rw [iF_f (by grind)]; first | exact (iF_t (by grind)).symm | exact (iF_f (by grind)).symm), rfl⟩) (by decide) (by decide)
    · refine r_iload2 (pc := 40) C dX6_priceOf_40 ?_
      refine r_goto (pc := 41) C (tgt := 47) dX6_priceOf_41 (by decide) ?_
      exact r_iret C rfl dX6_priceOf_47 (⟨by unfold gpS; first | exact (iF_t (by grind)).symm | (rw [iF_f (by grind)]; first | exact (iF_t (by grind)).symm | exact (iF_f (by grind)).symm), rfl⟩) (by decide) (by decide)
  · refine r_iconst (pc := 25) C (v := (-1)) dX6_priceOf_25 (by decide) ?_
    refine r_goto (pc := 26) C (tgt := 47) dX6_priceOf_26 (by decide) ?_
    exact r_iret C rfl dX6_priceOf_47 (⟨by unfold gpS; first | exact (iF_t (by grind)).symm | (rw [iF_f (by grind)]; first | exact (iF_t (by grind)).symm | exact (iF_f (by grind)).symm), rfl⟩) (by decide) (by decide)

set_option maxRecDepth 100000 in
set_option maxHeartbeats 4000000 in
theorem c_X6_originOf (l : Launch) (D : Gt) (T : List Nat) (ad : Nat → Nat) (σ : Mm) {nr ng : Nat} (hT : TG nr ng T) {s0 : Nat} (hs : s0 < 80) {i a : Nat} (hi : σ 87 s0 = nI i) (hi40 : i < 40) (ha : σ 64 i = nI a) (ha12 : a < 12) : KI D l yX6_originOf (uws yX6_originOf cX6_originOf 2 (some .int)) (RM 1 0 0) [.ref (ad 400), .int (nI s0)] (T, ad, cO D ad σ) (fun r S1 => r = orgM σ s0 ∧ S1 = (T, ad, cO D ad σ)) (nX) 0 0 := by
  refine KI_of (own := RX6) (L0 := [some (.ref (ad 400)), some (.int (nI s0))]) (by decide +kernel) rfl (catc rfl (catc rfl cat0)) (Nat.le_of_ble_eq_true rfl) rfl ?_
  intro p e s m args below meth c A hnm C
  refine r_aload0 (pc := 0) C dX6_originOf_0 ?_
  refine gX6_7 (pc := 1) C hT dX6_originOf_1 ?_
  refine r_aload0 (pc := 4) C dX6_originOf_4 ?_
  refine gX6_13 (pc := 5) C hT dX6_originOf_5 ?_
  refine r_aload0 (pc := 8) C dX6_originOf_8 ?_
  refine gX6_75 (pc := 9) C hT dX6_originOf_9 ?_
  refine r_iload1 (pc := 12) C dX6_originOf_12 ?_
  refine a427 (pc := 13) C hT rfl (by omega) dX6_originOf_13 ?_
  refine a404 (pc := 14) C hT hi (by omega) dX6_originOf_14 ?_
  refine a402 (pc := 15) C hT ha (by omega) dX6_originOf_15 ?_
  exact r_iret C rfl dX6_originOf_16 (⟨by unfold orgM pitM; rw [hi, nI_clamp (by omega), ha, nI_clamp (by omega)], rfl⟩) (by decide) (by decide)

set_option maxRecDepth 100000 in
set_option maxHeartbeats 4000000 in
theorem c_X6_cameOf (l : Launch) (D : Gt) (T : List Nat) (ad : Nat → Nat) (σ : Mm) {nr ng : Nat} (hT : TG nr ng T) (hn : σ 60 3 = nI nr) (hpa : ∀ s, s < nr → ∃ a, a < 12 ∧ σ 64 s = nI a) (x : Int32) : KI D l yX6_cameOf (uws yX6_cameOf cX6_cameOf 4 (some .int)) (RM 1 0 0) [.ref (ad 400), .int x] (T, ad, cO D ad σ) (fun r S1 => r = cmM σ x nr ∧ S1 = (T, ad, cO D ad σ)) (nX) 0 0 := by
  refine KI_of (own := RX6) (L0 := [some (.ref (ad 400)), some (.int x), none, none]) (by decide +kernel) rfl (catc rfl (catc rfl cat0)) (Nat.le_of_ble_eq_true rfl) rfl ?_
  intro p e s m args below meth c A hnm C
  have h40 := hT.1
  have loop : ∀ (z k : Nat), k ≤ nr → nr < k + z → V D A 4 (T, ad, cO D ad σ) p l e (RM 1 0 0) s m args below meth c 0 0 (vx_MQ below (va_Qi (fun r S1 => r = cmM σ x nr ∧ S1 = (T, ad, cO D ad σ)) (PoB D A) A) (XCs D (T, ad, cO D ad σ) A (nX)) args s 0 0 A) 4 [some (.ref (ad 400)), some (.int x), some (.int (cmM σ x k)), some (.int (nI k))] [] := by
    intro z
    induction z with
    | zero => intro k h1 h2; omega
    | succ z ih =>
      intro k h1 h2
      have hk : nI k + 1 = nI (k + 1) := nI_1 k
      refine r_iload3 (pc := 4) C dX6_cameOf_4 ?_
      refine r_aload0 (pc := 5) C dX6_cameOf_5 ?_
      refine gX6_111 (pc := 6) C hT dX6_cameOf_6 ?_
      rw [hn]
      refine r_icmp_geN (pc := 9) C (tgt := 46) dX6_cameOf_9 (by decide) (by omega) (by omega) (fun c_9 => ?_) (fun c_9 => ?_)
      · refine r_iload2 (pc := 46) C dX6_cameOf_46 ?_
        exact r_iret C rfl dX6_cameOf_47 (⟨by rw [show k = nr by omega], rfl⟩) (by decide) (by decide)
      · obtain ⟨a, ha12, ha⟩ := hpa k (by omega)
        have hpk : pitM σ k = σ 62 a := by unfold pitM; rw [ha, nI_clamp (by omega)]
        refine r_iload2 (pc := 12) C dX6_cameOf_12 ?_
        refine r_aload0 (pc := 13) C dX6_cameOf_13 ?_
        refine gX6_7 (pc := 14) C hT dX6_cameOf_14 ?_
        refine r_aload0 (pc := 17) C dX6_cameOf_17 ?_
        refine gX6_13 (pc := 18) C hT dX6_cameOf_18 ?_
        refine r_iload3 (pc := 21) C dX6_cameOf_21 ?_
        refine a404 (pc := 22) C hT rfl (by omega) dX6_cameOf_22 ?_
        refine a402 (pc := 23) C hT ha (by omega) dX6_cameOf_23 ?_
        refine r_iload1 (pc := 24) C dX6_cameOf_24 ?_
        refine r_icmp_ne (pc := 25) C (tgt := 37) dX6_cameOf_25 (by decide) (fun c_25 => ?_) (fun c_25 => ?_)
        · refine r_iconst (pc := 37) C (v := 0) dX6_cameOf_37 (by decide) ?_
          refine r_iadd (pc := 38) C dX6_cameOf_38 ?_
          try rw [show cmM σ x k + 0 = cmM σ x k from Int32.add_zero _]
          refine r_istore2 (pc := 39) C dX6_cameOf_39 ?_
          refine r_iinc3 (pc := 40) C dX6_cameOf_40 hk ?_
          refine r_goto (pc := 43) C (tgt := 4) dX6_cameOf_43 (by decide) ?_
          first
          | (have e1 : cmM σ x (k + 1) = cmM σ x k + σ 65 k := iF_t (by rw [hpk]; assumption)
             have h3 := ih (k + 1); rw [e1] at h3; exact h3 (by omega) (by omega))
          | (have e1 : cmM σ x (k + 1) = cmM σ x k := iF_f (by rw [hpk]; assumption)
             have h3 := ih (k + 1); rw [e1] at h3; exact h3 (by omega) (by omega))
        · refine r_aload0 (pc := 28) C dX6_cameOf_28 ?_
          refine gX6_16 (pc := 29) C hT dX6_cameOf_29 ?_
          refine r_iload3 (pc := 32) C dX6_cameOf_32 ?_
          refine a405 (pc := 33) C hT rfl (by omega) dX6_cameOf_33 ?_
          refine r_goto (pc := 34) C (tgt := 38) dX6_cameOf_34 (by decide) ?_
          refine r_iadd (pc := 38) C dX6_cameOf_38 ?_
          try rw [show cmM σ x k + 0 = cmM σ x k from Int32.add_zero _]
          refine r_istore2 (pc := 39) C dX6_cameOf_39 ?_
          refine r_iinc3 (pc := 40) C dX6_cameOf_40 hk ?_
          refine r_goto (pc := 43) C (tgt := 4) dX6_cameOf_43 (by decide) ?_
          first
          | (have e1 : cmM σ x (k + 1) = cmM σ x k + σ 65 k := iF_t (by rw [hpk]; assumption)
             have h3 := ih (k + 1); rw [e1] at h3; exact h3 (by omega) (by omega))
          | (have e1 : cmM σ x (k + 1) = cmM σ x k := iF_f (by rw [hpk]; assumption)
             have h3 := ih (k + 1); rw [e1] at h3; exact h3 (by omega) (by omega))
  refine r_iconst (pc := 0) C (v := 0) dX6_cameOf_0 (by decide) ?_
  refine r_istore2 (pc := 1) C dX6_cameOf_1 ?_
  refine r_iconst (pc := 2) C (v := 0) dX6_cameOf_2 (by decide) ?_
  refine r_istore3 (pc := 3) C dX6_cameOf_3 ?_
  exact loop (nr + 1) 0 (by omega) (by omega)

set_option maxRecDepth 100000 in
set_option maxHeartbeats 4000000 in
theorem c_X6_boxAt (l : Launch) (D : Gt) (T : List Nat) (ad : Nat → Nat) (σ : Mm) {nr ng : Nat} (hT : TG nr ng T) {nb : Nat} (hnb : σ 60 18 = nI nb) (hn5 : nb ≤ 5) (x : Int32) : KI D l yX6_boxAt (uws yX6_boxAt cX6_boxAt 5 (some .int)) (RM 1 0 0) [.ref (ad 400), .int x] (T, ad, cO D ad σ) (fun r S1 => r = fsF (fun b => nI (bxM σ b nb) = x) nb ∧ S1 = (T, ad, cO D ad σ)) (nX) 0 0 := by
  refine KI_of (own := RX6) (L0 := [some (.ref (ad 400)), some (.int x), none, none, none]) (by decide +kernel) rfl (catc rfl (catc rfl cat0)) (Nat.le_of_ble_eq_true rfl) rfl ?_
  intro p e s m args below meth c A hnm C
  have loop : ∀ (z k : Nat) (x3 x4 : Option Value) (hno : ∀ b, b < k → ¬ nI (bxM σ b nb) = x), k ≤ nb → nb < k + z → V D A 5 (T, ad, cO D ad σ) p l e (RM 1 0 0) s m args below meth c 0 0 (vx_MQ below (va_Qi (fun r S1 => r = fsF (fun b => nI (bxM σ b nb) = x) nb ∧ S1 = (T, ad, cO D ad σ)) (PoB D A) A) (XCs D (T, ad, cO D ad σ) A (nX)) args s 0 0 A) 2 [some (.ref (ad 400)), some (.int x), some (.int (nI k)), x3, x4] [] := by
    intro z
    induction z with
    | zero => intro k x3 x4 hno h1 h2; omega
    | succ z ih =>
      intro k x3 x4 hno h1 h2
      have hk : nI k + 1 = nI (k + 1) := nI_1 k
      refine r_iload2 (pc := 2) C dX6_boxAt_2 ?_
      refine r_aload0 (pc := 3) C dX6_boxAt_3 ?_
      refine gX6_157 (pc := 4) C hT dX6_boxAt_4 ?_
      rw [hnb]
      refine r_icmp_geN (pc := 7) C (tgt := 89) dX6_boxAt_7 (by decide) (by omega) (by omega) (fun c_7 => ?_) (fun c_7 => ?_)
      · refine r_iconst (pc := 89) C (v := (-1)) dX6_boxAt_89 (by decide) ?_
        exact r_iret C rfl dX6_boxAt_90 (⟨(fsF_no nb (fun b hb => hno b (by omega))).symm, rfl⟩) (by decide) (by decide)
      · refine r_iconst (pc := 10) C (v := 0) dX6_boxAt_10 (by decide) ?_
        refine r_istore3 (pc := 11) C dX6_boxAt_11 ?_
        refine r_iconst (pc := 12) C (v := 0) dX6_boxAt_12 (by decide) ?_
        refine r_istore4 (pc := 13) C dX6_boxAt_13 ?_
        have inner : ∀ (z2 j : Nat), j ≤ nb → nb < j + z2 → V D A 5 (T, ad, cO D ad σ) p l e (RM 1 0 0) s m args below meth c 0 0 (vx_MQ below (va_Qi (fun r S1 => r = fsF (fun b => nI (bxM σ b nb) = x) nb ∧ S1 = (T, ad, cO D ad σ)) (PoB D A) A) (XCs D (T, ad, cO D ad σ) A (nX)) args s 0 0 A) 15 [some (.ref (ad 400)), some (.int x), some (.int (nI k)), some (.int (nI (bxM σ k j))), some (.int (nI j))] [] := by
          intro z2
          induction z2 with
          | zero => intro j g1 g2; omega
          | succ z2 ih2 =>
            intro j g1 g2
            have hk2 : nI j + 1 = nI (j + 1) := nI_1 j
            refine r_iload4 (pc := 15) C dX6_boxAt_15 ?_
            refine r_aload0 (pc := 17) C dX6_boxAt_17 ?_
            refine gX6_157 (pc := 18) C hT dX6_boxAt_18 ?_
            rw [hnb]
            refine r_icmp_geN (pc := 21) C (tgt := 76) dX6_boxAt_21 (by decide) (by omega) (by omega) (fun c_21 => ?_) (fun c_21 => ?_)
            · have hjn : j = nb := by omega
              rw [hjn]
              refine r_iload3 (pc := 76) C dX6_boxAt_76 ?_
              refine r_iload1 (pc := 77) C dX6_boxAt_77 ?_
              refine r_icmp_ne (pc := 78) C (tgt := 83) dX6_boxAt_78 (by decide) (fun c_78 => ?_) (fun c_78 => ?_)
              · refine r_iinc2 (pc := 83) C dX6_boxAt_83 hk ?_
                refine r_goto (pc := 86) C (tgt := 2) dX6_boxAt_86 (by decide) ?_
                exact ih (k + 1) _ _ (fun b hb => by rcases (show b = k ∨ b < k by omega) with q | q; (subst q; exact c_78); exact hno b q) (by omega) (by omega)
              · refine r_iload2 (pc := 81) C dX6_boxAt_81 ?_
                exact r_iret C rfl dX6_boxAt_82 (⟨(fsF_at (P := fun b => nI (bxM σ b nb) = x) c_78 hno (by omega) nb (by omega)).symm, rfl⟩) (by decide) (by decide)
            · refine r_iload3 (pc := 24) C dX6_boxAt_24 ?_
              refine r_aload0 (pc := 25) C dX6_boxAt_25 ?_
              refine gX6_55 (pc := 26) C hT dX6_boxAt_26 ?_
              refine r_iload4 (pc := 29) C dX6_boxAt_29 ?_
              refine a419 (pc := 31) C hT rfl (by omega) dX6_boxAt_31 ?_
              refine r_aload0 (pc := 32) C dX6_boxAt_32 ?_
              refine gX6_55 (pc := 33) C hT dX6_boxAt_33 ?_
              refine r_iload2 (pc := 36) C dX6_boxAt_36 ?_
              refine a419 (pc := 37) C hT rfl (by omega) dX6_boxAt_37 ?_
              refine r_icmp_gt (pc := 38) C (tgt := 63) dX6_boxAt_38 (by decide) (fun c_38 => ?_) (fun c_38 => ?_)
              · refine r_iconst (pc := 63) C (v := 1) dX6_boxAt_63 (by decide) ?_
                refine r_goto (pc := 64) C (tgt := 68) dX6_boxAt_64 (by decide) ?_
                refine r_iadd (pc := 68) C dX6_boxAt_68 ?_
                first | rw [show nI (bxM σ k j) + 1 = nI (bxM σ k j + 1) from nI_1 _] | rw [show nI (bxM σ k j) + 0 = nI (bxM σ k j) from Int32.add_zero _]
                refine r_istore3 (pc := 69) C dX6_boxAt_69 ?_
                refine r_iinc4 (pc := 70) C dX6_boxAt_70 hk2 ?_
                refine r_goto (pc := 73) C (tgt := 15) dX6_boxAt_73 (by decide) ?_
                first
                | (have e1 : bxM σ k (j + 1) = bxM σ k j + 1 := iF_t (by grind)
                   have h3 := ih2 (j + 1); rw [e1] at h3; exact h3 (by omega) (by omega))
                | (have e1 : bxM σ k (j + 1) = bxM σ k j := iF_f (by grind)
                   have h3 := ih2 (j + 1); rw [e1] at h3; exact h3 (by omega) (by omega))
              · refine r_aload0 (pc := 41) C dX6_boxAt_41 ?_
                refine gX6_55 (pc := 42) C hT dX6_boxAt_42 ?_
                refine r_iload4 (pc := 45) C dX6_boxAt_45 ?_
                refine a419 (pc := 47) C hT rfl (by omega) dX6_boxAt_47 ?_
                refine r_aload0 (pc := 48) C dX6_boxAt_48 ?_
                refine gX6_55 (pc := 49) C hT dX6_boxAt_49 ?_
                refine r_iload2 (pc := 52) C dX6_boxAt_52 ?_
                refine a419 (pc := 53) C hT rfl (by omega) dX6_boxAt_53 ?_
                refine r_icmp_ne (pc := 54) C (tgt := 67) dX6_boxAt_54 (by decide) (fun c_54 => ?_) (fun c_54 => ?_)
                · refine r_iconst (pc := 67) C (v := 0) dX6_boxAt_67 (by decide) ?_
                  refine r_iadd (pc := 68) C dX6_boxAt_68 ?_
                  first | rw [show nI (bxM σ k j) + 1 = nI (bxM σ k j + 1) from nI_1 _] | rw [show nI (bxM σ k j) + 0 = nI (bxM σ k j) from Int32.add_zero _]
                  refine r_istore3 (pc := 69) C dX6_boxAt_69 ?_
                  refine r_iinc4 (pc := 70) C dX6_boxAt_70 hk2 ?_
                  refine r_goto (pc := 73) C (tgt := 15) dX6_boxAt_73 (by decide) ?_
                  first
                  | (have e1 : bxM σ k (j + 1) = bxM σ k j + 1 := iF_t (by grind)
                     have h3 := ih2 (j + 1); rw [e1] at h3; exact h3 (by omega) (by omega))
                  | (have e1 : bxM σ k (j + 1) = bxM σ k j := iF_f (by grind)
                     have h3 := ih2 (j + 1); rw [e1] at h3; exact h3 (by omega) (by omega))
                · refine r_iload4 (pc := 57) C dX6_boxAt_57 ?_
                  refine r_iload2 (pc := 59) C dX6_boxAt_59 ?_
                  refine r_icmp_geN (pc := 60) C (tgt := 67) dX6_boxAt_60 (by decide) (by omega) (by omega) (fun c_60 => ?_) (fun c_60 => ?_)
                  · refine r_iconst (pc := 67) C (v := 0) dX6_boxAt_67 (by decide) ?_
                    refine r_iadd (pc := 68) C dX6_boxAt_68 ?_
                    first | rw [show nI (bxM σ k j) + 1 = nI (bxM σ k j + 1) from nI_1 _] | rw [show nI (bxM σ k j) + 0 = nI (bxM σ k j) from Int32.add_zero _]
                    refine r_istore3 (pc := 69) C dX6_boxAt_69 ?_
                    refine r_iinc4 (pc := 70) C dX6_boxAt_70 hk2 ?_
                    refine r_goto (pc := 73) C (tgt := 15) dX6_boxAt_73 (by decide) ?_
                    first
                    | (have e1 : bxM σ k (j + 1) = bxM σ k j + 1 := iF_t (by grind)
                       have h3 := ih2 (j + 1); rw [e1] at h3; exact h3 (by omega) (by omega))
                    | (have e1 : bxM σ k (j + 1) = bxM σ k j := iF_f (by grind)
                       have h3 := ih2 (j + 1); rw [e1] at h3; exact h3 (by omega) (by omega))
                  · refine r_iconst (pc := 63) C (v := 1) dX6_boxAt_63 (by decide) ?_
                    refine r_goto (pc := 64) C (tgt := 68) dX6_boxAt_64 (by decide) ?_
                    refine r_iadd (pc := 68) C dX6_boxAt_68 ?_
                    first | rw [show nI (bxM σ k j) + 1 = nI (bxM σ k j + 1) from nI_1 _] | rw [show nI (bxM σ k j) + 0 = nI (bxM σ k j) from Int32.add_zero _]
                    refine r_istore3 (pc := 69) C dX6_boxAt_69 ?_
                    refine r_iinc4 (pc := 70) C dX6_boxAt_70 hk2 ?_
                    refine r_goto (pc := 73) C (tgt := 15) dX6_boxAt_73 (by decide) ?_
                    first
                    | (have e1 : bxM σ k (j + 1) = bxM σ k j + 1 := iF_t (by grind)
                       have h3 := ih2 (j + 1); rw [e1] at h3; exact h3 (by omega) (by omega))
                    | (have e1 : bxM σ k (j + 1) = bxM σ k j := iF_f (by grind)
                       have h3 := ih2 (j + 1); rw [e1] at h3; exact h3 (by omega) (by omega))
        exact inner (nb + 1) 0 (by omega) (by omega)
  refine r_iconst (pc := 0) C (v := 0) dX6_boxAt_0 (by decide) ?_
  refine r_istore2 (pc := 1) C dX6_boxAt_1 ?_
  exact loop (nb + 1) 0 _ _ (fun b hb => absurd hb (by omega)) (by omega) (by omega)


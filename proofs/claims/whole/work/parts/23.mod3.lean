noncomputable def cd1 (P : Prop) : Int32 := iF P 0 1
noncomputable def cd2 (P Q : Prop) : Int32 := iF P (iF Q 0 2) 1
noncomputable def cd3 (P Q R : Prop) : Int32 := iF P (iF Q (iF R 0 3) 2) 1
theorem cd1_t {P : Prop} (h : P) : cd1 P = 0 := iF_t h
theorem cd1_f {P : Prop} (h : ¬ P) : ¬ cd1 P = 0 := by rw [cd1, iF_f h]; decide
theorem cd2_t {P Q : Prop} (h : P ∧ Q) : cd2 P Q = 0 := by rw [cd2, iF_t h.1, iF_t h.2]
theorem cd2_f {P Q : Prop} (h : ¬ (P ∧ Q)) : ¬ cd2 P Q = 0 := by
  unfold cd2
  by_cases p : P
  · rw [iF_t p, iF_f (fun q => h ⟨p, q⟩)]; decide
  · rw [iF_f p]; decide
theorem cd3_t {P Q R : Prop} (h : P ∧ Q ∧ R) : cd3 P Q R = 0 := by rw [cd3, iF_t h.1, iF_t h.2.1, iF_t h.2.2]
theorem cd3_f {P Q R : Prop} (h : ¬ (P ∧ Q ∧ R)) : ¬ cd3 P Q R = 0 := by
  unfold cd3
  by_cases p : P
  · rw [iF_t p]
    by_cases q : Q
    · rw [iF_t q, iF_f (fun z => h ⟨p, q, z⟩)]; decide
    · rw [iF_f q]; decide
  · rw [iF_f p]; decide
theorem ask1 (l : Launch) (D : Gt) (T : List Nat) (ad : Nat → Nat) (σ : Mm) {nr ng : Nat} (hT : TG nr ng T) {x : Int32} (P : Prop) (hx : x = bI P) : KI D l yX6_asked (uws yX6_asked cX6_asked 2 (some .boolean)) (RM 1 0 0) [.ref (ad 400), .int x] (T, ad, cO D ad σ) (fun r S1 => r = bI P ∧ S1 = (T, ad, cO D ad (up σ 60 0 (cd1 P)))) (nX) 0 0 := by
  subst hx
  have h := c_X6_asked l D T ad σ hT (bI P) bI_n
  rw [show iF (bI P = 0) 1 0 = cd1 P by
    unfold cd1
    by_cases p : P
    · rw [bI_t p, iF_f (by decide), iF_t p]
    · rw [bI_f p, iF_t rfl, iF_f p]] at h
  exact h
theorem ask2 (l : Launch) (D : Gt) (T : List Nat) (ad : Nat → Nat) (σ : Mm) {nr ng : Nat} (hT : TG nr ng T) {x y : Int32} (P Q : Prop) (hx : x = bI P) (hy : P → y = bI Q) : KI D l yX6_asked_ (uws yX6_asked_ cX6_asked_ 3 (some .boolean)) (RM 1 0 0) [.ref (ad 400), .int x, .int y] (T, ad, cO D ad σ) (fun r S1 => r = bI (P ∧ Q) ∧ S1 = (T, ad, cO D ad (up σ 60 0 (cd2 P Q)))) (nX) 0 0 := by
  have h := c_X6_asked_ l D T ad σ hT x y
  rw [show iF (x = 0) 1 (iF (y = 0) 2 0) = cd2 P Q by
    subst hx
    unfold cd2
    by_cases p : P
    · rw [bI_t p, iF_f (by decide), hy p, iF_t p]
      by_cases q : Q
      · rw [bI_t q, iF_f (by decide), iF_t q]
      · rw [bI_f q, iF_t rfl, iF_f q]
    · rw [bI_f p, iF_t rfl, iF_f p], show bI (¬ x = 0 ∧ ¬ y = 0) = bI (P ∧ Q) from bI_c (by
    subst hx
    by_cases p : P
    · rw [hy p, bI_0, bI_0]; exact ⟨fun z => ⟨p, Classical.not_not.mp z.2⟩, fun z => ⟨fun f => f p, fun f => f z.2⟩⟩
    · rw [bI_0]; exact ⟨fun z => absurd p z.1, fun z => absurd z.1 p⟩)] at h
  exact h
theorem ask3 (l : Launch) (D : Gt) (T : List Nat) (ad : Nat → Nat) (σ : Mm) {nr ng : Nat} (hT : TG nr ng T) {x y v : Int32} (P Q R : Prop) (hx : x = bI P) (hy : P → y = bI Q) (hv : P → Q → v = bI R) : KI D l yX6_asked__ (uws yX6_asked__ cX6_asked__ 4 (some .boolean)) (RM 1 0 0) [.ref (ad 400), .int x, .int y, .int v] (T, ad, cO D ad σ) (fun r S1 => r = bI (P ∧ Q ∧ R) ∧ S1 = (T, ad, cO D ad (up σ 60 0 (cd3 P Q R)))) (nX) 0 0 := by
  have h := c_X6_asked__ l D T ad σ hT x y v
  rw [show iF (x = 0) 1 (iF (y = 0) 2 (iF (v = 0) 3 0)) = cd3 P Q R by
    subst hx
    unfold cd3
    by_cases p : P
    · rw [bI_t p, iF_f (by decide), hy p, iF_t p]
      by_cases q : Q
      · rw [bI_t q, iF_f (by decide), iF_t q, hv p q]
        by_cases r : R
        · rw [bI_t r, iF_f (by decide), iF_t r]
        · rw [bI_f r, iF_t rfl, iF_f r]
      · rw [bI_f q, iF_t rfl, iF_f q]
    · rw [bI_f p, iF_t rfl, iF_f p], show bI (¬ x = 0 ∧ ¬ y = 0 ∧ ¬ v = 0) = bI (P ∧ Q ∧ R) from bI_c (by
    subst hx
    by_cases p : P
    · rw [hy p]
      by_cases q : Q
      · rw [hv p q, bI_0, bI_0, bI_0]; exact ⟨fun z => ⟨p, q, Classical.not_not.mp z.2.2⟩, fun z => ⟨fun f => f p, fun f => f q, fun f => f z.2.2⟩⟩
      · rw [bI_0, bI_0]; exact ⟨fun z => absurd q z.2.1, fun z => absurd z.2.1 q⟩
    · rw [bI_0]; exact ⟨fun z => absurd p z.1, fun z => absurd z.1 p⟩)] at h
  exact h
theorem ML_up {nr ng np nb : Nat} {σ : Mm} (v : Int32) (h : ML nr ng np nb σ) : ML nr ng np nb (up σ 60 0 v) := h
theorem ul_s {x : Int32} {n : Nat} (hn : n < 2 ^ 31) (h : 0 ≤ x ∧ x ≤ nI n) : ∃ j : Nat, j ≤ n ∧ x = nI j := by
  obtain ⟨m, _, h2, h3⟩ := rg_of (a := 0) ⟨Nat.zero_le n, hn⟩ h
  exact ⟨m, h2, h3⟩
set_option maxRecDepth 100000 in
set_option maxHeartbeats 4000000 in
theorem c_X6_parcel (l : Launch) (D : Gt) (T : List Nat) (ad : Nat → Nat) (σ : Mm) {nr ng : Nat} (hT : TG nr ng T) {np nb : Nat} (hM : ML nr ng np nb σ) (x : Int32) : KI D l yX6_parcel (uws yX6_parcel cX6_parcel 2 (some .int)) (RM 7 0 0) [.ref (ad 400), .int x] (T, ad, cO D ad σ) (fun r S1 => ((cd2 (0 ≤ x ∧ x ≤ 3) (σ 60 1 < 12)) = 0 → r = nI np ∧ S1 = (T, ad, cO D ad (up (up (up σ 60 0 0) 62 np x) 60 1 (nI (np + 1))))) ∧ (¬ (cd2 (0 ≤ x ∧ x ≤ 3) (σ 60 1 < 12)) = 0 → r = 0 ∧ S1 = (T, ad, cO D ad (up σ 60 0 (cd2 (0 ≤ x ∧ x ≤ 3) (σ 60 1 < 12)))))) (nX) 0 0 := by
  refine KI_of (own := RX6) (L0 := [some (.ref (ad 400)), some (.int x)]) (by decide +kernel) rfl (catc rfl (catc rfl cat0)) (Nat.le_of_ble_eq_true rfl) rfl ?_
  intro p e s m args below meth c A hnm C
  have hS := hM
  obtain ⟨hm1, hm3, hm26, hm18, hnp, hnr, hng, hnb5, hb, hsc, hlc, hpa, hro, hof, hte⟩ := hM
  refine r_aload0 (pc := 0) C dX6_parcel_0 ?_
  refine r_iload1 (pc := 1) C dX6_parcel_1 ?_
  refine r_iconst (pc := 2) C (v := 0) dX6_parcel_2 (by decide) ?_
  refine r_iconst (pc := 3) C (v := 3) dX6_parcel_3 (by decide) ?_
  refine kX6_114 (pc := 4) C (c_X6_in l D _ _ _ _) dX6_parcel_4 (Nat.le_of_ble_eq_true rfl) (by decide) ?_
  rintro _ _ ⟨rfl, rfl⟩
  refine r_aload0 (pc := 7) C dX6_parcel_7 ?_
  refine gX6_121 (pc := 8) C hT dX6_parcel_8 ?_
  refine r_bipush (pc := 11) C (v := 12) dX6_parcel_11 (by decide) ?_
  refine r_icmp_ge (pc := 13) C (tgt := 20) dX6_parcel_13 (by decide) (fun c_13 => ?_) (fun c_13 => ?_)
  · refine r_iconst (pc := 20) C (v := 0) dX6_parcel_20 (by decide) ?_
    refine kX6_124 (pc := 21) C (ask2 l D _ _ _ hT (0 ≤ x ∧ x ≤ 3) (σ 60 1 < 12) (by first | rfl | exact (bI_t (by with_reducible assumption)).symm | exact (bI_f (by with_reducible assumption)).symm | (refine (bI_t ?_).symm; and_intros <;> with_reducible assumption) | (refine (bI_f ?_).symm; rintro ⟨h1, h2⟩; first | exact absurd h1 (by with_reducible assumption) | exact absurd h2 (by with_reducible assumption)) | (refine (bI_f ?_).symm; rintro ⟨h1, h2, h3⟩; first | exact absurd h2 (by with_reducible assumption) | exact absurd h3 (by with_reducible assumption)) | exact bI_c (by grind) | exact (bI_t (by grind)).symm | exact (bI_f (by grind)).symm) (fun hP0 => by first | rfl | exact absurd hP0 (by with_reducible assumption) | (obtain ⟨hp1, hp2⟩ := hP0; first | exact absurd hp1 (by with_reducible assumption) | exact absurd hp2 (by with_reducible assumption)) | exact (bI_t (by with_reducible assumption)).symm | exact (bI_f (by with_reducible assumption)).symm | (refine (bI_t ?_).symm; and_intros <;> with_reducible assumption) | (refine (bI_f ?_).symm; rintro ⟨h1, h2⟩; first | exact absurd h1 (by with_reducible assumption) | exact absurd h2 (by with_reducible assumption)) | (refine (bI_f ?_).symm; rintro ⟨h1, h2, h3⟩; first | exact absurd h2 (by with_reducible assumption) | exact absurd h3 (by with_reducible assumption)) | exact bI_c (by grind) | exact (bI_t (by grind)).symm | exact (bI_f (by grind)).symm)) (hT.f (by decide)) rfl dX6_parcel_21 (Nat.le_of_ble_eq_true rfl) (by decide) ?_
    rintro _ _ ⟨rfl, rfl⟩
    refine r_if_ne_b (pc := 24) C (tgt := 29) dX6_parcel_24 (by decide) (fun c_24 => ?_) (fun c_24 => ?_)
    · have hok : (cd2 (0 ≤ x ∧ x ≤ 3) (σ 60 1 < 12)) = 0 := cd2_t c_24
      rw [hok]
      obtain ⟨τ, hτ⟩ : ∃ τ, up σ 60 0 0 = τ := ⟨_, rfl⟩
      rw [hτ]
      obtain ⟨hm1, hm3, hm26, hm18, hnp, hnr, hng, hnb5, hb, hsc, hlc, hpa, hro, hof, hte⟩ := (hτ ▸ ML_up 0 hS : ML nr ng np nb τ)
      obtain ⟨hP, hQ⟩ := c_24
      have hn12 : np < 12 := by
        have q := hQ
        rw [hS.1] at q
        exact (nI_ltI (by omega) (by decide)).mp q
      refine r_aload0 (pc := 29) C dX6_parcel_29 ?_
      refine gX6_7 (pc := 30) C hT dX6_parcel_30 ?_
      refine r_aload0 (pc := 33) C dX6_parcel_33 ?_
      refine gX6_121 (pc := 34) C hT dX6_parcel_34 ?_
      refine r_iload1 (pc := 37) C dX6_parcel_37 ?_
      refine b402 (pc := 38) C hT hm1 (by omega) dX6_parcel_38 ?_
      refine r_aload0 (pc := 39) C dX6_parcel_39 ?_
      refine r_dup (pc := 40) C dX6_parcel_40 rfl ?_
      refine gX6_121 (pc := 41) C hT dX6_parcel_41 ?_
      refine r_iconst (pc := 44) C (v := 1) dX6_parcel_44 (by decide) ?_
      refine r_iadd (pc := 45) C dX6_parcel_45 ?_
      refine pX6_121 (pc := 46) C hT dX6_parcel_46 ?_
      rw [show (up τ 62 np x) 60 1 + 1 = nI (np + 1) by rw [show (up τ 62 np x) 60 1 = τ 60 1 from rfl, hm1]; exact nI_1 np]
      refine r_aload0 (pc := 49) C dX6_parcel_49 ?_
      refine gX6_121 (pc := 50) C hT dX6_parcel_50 ?_
      refine r_iconst (pc := 53) C (v := 1) dX6_parcel_53 (by decide) ?_
      refine r_isub (pc := 54) C dX6_parcel_54 ?_
      exact r_iret C rfl dX6_parcel_55 (by first | exact ⟨fun q => absurd q hno, fun _ => ⟨rfl, rfl⟩⟩ | exact ⟨fun _ => ⟨by rw [up_self]; exact pk_sub (b := 1) (Nat.le_add_left 1 np), rfl⟩, fun q => absurd rfl q⟩) (by decide) (by decide)
    · have hno : ¬ (cd2 (0 ≤ x ∧ x ≤ 3) (σ 60 1 < 12)) = 0 := cd2_f (by assumption)
      refine r_iconst (pc := 27) C (v := 0) dX6_parcel_27 (by decide) ?_
      exact r_iret C rfl dX6_parcel_28 (by first | exact ⟨fun q => absurd q hno, fun _ => ⟨rfl, rfl⟩⟩ | exact ⟨fun _ => ⟨by rw [up_self]; exact pk_sub (b := 1) (Nat.le_add_left 1 np), rfl⟩, fun q => absurd rfl q⟩) (by decide) (by decide)
  · refine r_iconst (pc := 16) C (v := 1) dX6_parcel_16 (by decide) ?_
    refine r_goto (pc := 17) C (tgt := 21) dX6_parcel_17 (by decide) ?_
    refine kX6_124 (pc := 21) C (ask2 l D _ _ _ hT (0 ≤ x ∧ x ≤ 3) (σ 60 1 < 12) (by first | rfl | exact (bI_t (by with_reducible assumption)).symm | exact (bI_f (by with_reducible assumption)).symm | (refine (bI_t ?_).symm; and_intros <;> with_reducible assumption) | (refine (bI_f ?_).symm; rintro ⟨h1, h2⟩; first | exact absurd h1 (by with_reducible assumption) | exact absurd h2 (by with_reducible assumption)) | (refine (bI_f ?_).symm; rintro ⟨h1, h2, h3⟩; first | exact absurd h2 (by with_reducible assumption) | exact absurd h3 (by with_reducible assumption)) | exact bI_c (by grind) | exact (bI_t (by grind)).symm | exact (bI_f (by grind)).symm) (fun hP0 => by first | rfl | exact absurd hP0 (by with_reducible assumption) | (obtain ⟨hp1, hp2⟩ := hP0; first | exact absurd hp1 (by with_reducible assumption) | exact absurd hp2 (by with_reducible assumption)) | exact (bI_t (by with_reducible assumption)).symm | exact (bI_f (by with_reducible assumption)).symm | (refine (bI_t ?_).symm; and_intros <;> with_reducible assumption) | (refine (bI_f ?_).symm; rintro ⟨h1, h2⟩; first | exact absurd h1 (by with_reducible assumption) | exact absurd h2 (by with_reducible assumption)) | (refine (bI_f ?_).symm; rintro ⟨h1, h2, h3⟩; first | exact absurd h2 (by with_reducible assumption) | exact absurd h3 (by with_reducible assumption)) | exact bI_c (by grind) | exact (bI_t (by grind)).symm | exact (bI_f (by grind)).symm)) (hT.f (by decide)) rfl dX6_parcel_21 (Nat.le_of_ble_eq_true rfl) (by decide) ?_
    rintro _ _ ⟨rfl, rfl⟩
    refine r_if_ne_b (pc := 24) C (tgt := 29) dX6_parcel_24 (by decide) (fun c_24 => ?_) (fun c_24 => ?_)
    · have hok : (cd2 (0 ≤ x ∧ x ≤ 3) (σ 60 1 < 12)) = 0 := cd2_t c_24
      rw [hok]
      obtain ⟨τ, hτ⟩ : ∃ τ, up σ 60 0 0 = τ := ⟨_, rfl⟩
      rw [hτ]
      obtain ⟨hm1, hm3, hm26, hm18, hnp, hnr, hng, hnb5, hb, hsc, hlc, hpa, hro, hof, hte⟩ := (hτ ▸ ML_up 0 hS : ML nr ng np nb τ)
      obtain ⟨hP, hQ⟩ := c_24
      have hn12 : np < 12 := by
        have q := hQ
        rw [hS.1] at q
        exact (nI_ltI (by omega) (by decide)).mp q
      refine r_aload0 (pc := 29) C dX6_parcel_29 ?_
      refine gX6_7 (pc := 30) C hT dX6_parcel_30 ?_
      refine r_aload0 (pc := 33) C dX6_parcel_33 ?_
      refine gX6_121 (pc := 34) C hT dX6_parcel_34 ?_
      refine r_iload1 (pc := 37) C dX6_parcel_37 ?_
      refine b402 (pc := 38) C hT hm1 (by omega) dX6_parcel_38 ?_
      refine r_aload0 (pc := 39) C dX6_parcel_39 ?_
      refine r_dup (pc := 40) C dX6_parcel_40 rfl ?_
      refine gX6_121 (pc := 41) C hT dX6_parcel_41 ?_
      refine r_iconst (pc := 44) C (v := 1) dX6_parcel_44 (by decide) ?_
      refine r_iadd (pc := 45) C dX6_parcel_45 ?_
      refine pX6_121 (pc := 46) C hT dX6_parcel_46 ?_
      rw [show (up τ 62 np x) 60 1 + 1 = nI (np + 1) by rw [show (up τ 62 np x) 60 1 = τ 60 1 from rfl, hm1]; exact nI_1 np]
      refine r_aload0 (pc := 49) C dX6_parcel_49 ?_
      refine gX6_121 (pc := 50) C hT dX6_parcel_50 ?_
      refine r_iconst (pc := 53) C (v := 1) dX6_parcel_53 (by decide) ?_
      refine r_isub (pc := 54) C dX6_parcel_54 ?_
      exact r_iret C rfl dX6_parcel_55 (by first | exact ⟨fun q => absurd q hno, fun _ => ⟨rfl, rfl⟩⟩ | exact ⟨fun _ => ⟨by rw [up_self]; exact pk_sub (b := 1) (Nat.le_add_left 1 np), rfl⟩, fun q => absurd rfl q⟩) (by decide) (by decide)
    · have hno : ¬ (cd2 (0 ≤ x ∧ x ≤ 3) (σ 60 1 < 12)) = 0 := cd2_f (by assumption)
      refine r_iconst (pc := 27) C (v := 0) dX6_parcel_27 (by decide) ?_
      exact r_iret C rfl dX6_parcel_28 (by first | exact ⟨fun q => absurd q hno, fun _ => ⟨rfl, rfl⟩⟩ | exact ⟨fun _ => ⟨by rw [up_self]; exact pk_sub (b := 1) (Nat.le_add_left 1 np), rfl⟩, fun q => absurd rfl q⟩) (by decide) (by decide)

set_option maxRecDepth 100000 in
set_option maxHeartbeats 4000000 in
theorem c_X6_drift (l : Launch) (D : Gt) (T : List Nat) (ad : Nat → Nat) (σ : Mm) {nr ng : Nat} (hT : TG nr ng T) {np nb : Nat} (hM : ML nr ng np nb σ) (x y : Int32) : KI D l yX6_drift (uws yX6_drift cX6_drift 4 (some .int)) (RM 7 0 0) [.ref (ad 400), .int x, .int y] (T, ad, cO D ad σ) (fun r S1 => ((cd2 (0 ≤ x ∧ x ≤ 3) ((-2) ≤ y ∧ y ≤ 2)) = 0 → r = (up σ 60 0 0) 76 x.toNatClampNeg ∧ S1 = (T, ad, cO D ad (up (up σ 60 0 0) 76 x.toNatClampNeg y))) ∧ (¬ (cd2 (0 ≤ x ∧ x ≤ 3) ((-2) ≤ y ∧ y ≤ 2)) = 0 → r = 0 ∧ S1 = (T, ad, cO D ad (up σ 60 0 (cd2 (0 ≤ x ∧ x ≤ 3) ((-2) ≤ y ∧ y ≤ 2)))))) (nX) 0 0 := by
  refine KI_of (own := RX6) (L0 := [some (.ref (ad 400)), some (.int x), some (.int y), none]) (by decide +kernel) rfl (catc rfl (catc rfl (catc rfl cat0))) (Nat.le_of_ble_eq_true rfl) rfl ?_
  intro p e s m args below meth c A hnm C
  have hS := hM
  obtain ⟨hm1, hm3, hm26, hm18, hnp, hnr, hng, hnb5, hb, hsc, hlc, hpa, hro, hof, hte⟩ := hM
  refine r_aload0 (pc := 0) C dX6_drift_0 ?_
  refine r_iload1 (pc := 1) C dX6_drift_1 ?_
  refine r_iconst (pc := 2) C (v := 0) dX6_drift_2 (by decide) ?_
  refine r_iconst (pc := 3) C (v := 3) dX6_drift_3 (by decide) ?_
  refine kX6_114 (pc := 4) C (c_X6_in l D _ _ _ _) dX6_drift_4 (Nat.le_of_ble_eq_true rfl) (by decide) ?_
  rintro _ _ ⟨rfl, rfl⟩
  refine r_iload2 (pc := 7) C dX6_drift_7 ?_
  refine r_bipush (pc := 8) C (v := (-2)) dX6_drift_8 (by decide) ?_
  refine r_iconst (pc := 10) C (v := 2) dX6_drift_10 (by decide) ?_
  refine kX6_114 (pc := 11) C (c_X6_in l D _ _ _ _) dX6_drift_11 (Nat.le_of_ble_eq_true rfl) (by decide) ?_
  rintro _ _ ⟨rfl, rfl⟩
  refine kX6_124 (pc := 14) C (ask2 l D _ _ _ hT (0 ≤ x ∧ x ≤ 3) ((-2) ≤ y ∧ y ≤ 2) (by first | rfl | exact (bI_t (by with_reducible assumption)).symm | exact (bI_f (by with_reducible assumption)).symm | (refine (bI_t ?_).symm; and_intros <;> with_reducible assumption) | (refine (bI_f ?_).symm; rintro ⟨h1, h2⟩; first | exact absurd h1 (by with_reducible assumption) | exact absurd h2 (by with_reducible assumption)) | (refine (bI_f ?_).symm; rintro ⟨h1, h2, h3⟩; first | exact absurd h2 (by with_reducible assumption) | exact absurd h3 (by with_reducible assumption)) | exact bI_c (by grind) | exact (bI_t (by grind)).symm | exact (bI_f (by grind)).symm) (fun hP0 => by first | rfl | exact absurd hP0 (by with_reducible assumption) | (obtain ⟨hp1, hp2⟩ := hP0; first | exact absurd hp1 (by with_reducible assumption) | exact absurd hp2 (by with_reducible assumption)) | exact (bI_t (by with_reducible assumption)).symm | exact (bI_f (by with_reducible assumption)).symm | (refine (bI_t ?_).symm; and_intros <;> with_reducible assumption) | (refine (bI_f ?_).symm; rintro ⟨h1, h2⟩; first | exact absurd h1 (by with_reducible assumption) | exact absurd h2 (by with_reducible assumption)) | (refine (bI_f ?_).symm; rintro ⟨h1, h2, h3⟩; first | exact absurd h2 (by with_reducible assumption) | exact absurd h3 (by with_reducible assumption)) | exact bI_c (by grind) | exact (bI_t (by grind)).symm | exact (bI_f (by grind)).symm)) (hT.f (by decide)) rfl dX6_drift_14 (Nat.le_of_ble_eq_true rfl) (by decide) ?_
  rintro _ _ ⟨rfl, rfl⟩
  refine r_if_ne_b (pc := 17) C (tgt := 22) dX6_drift_17 (by decide) (fun c_17 => ?_) (fun c_17 => ?_)
  · have hok : (cd2 (0 ≤ x ∧ x ≤ 3) ((-2) ≤ y ∧ y ≤ 2)) = 0 := cd2_t c_17
    rw [hok]
    obtain ⟨τ, hτ⟩ : ∃ τ, up σ 60 0 0 = τ := ⟨_, rfl⟩
    rw [hτ]
    obtain ⟨hm1, hm3, hm26, hm18, hnp, hnr, hng, hnb5, hb, hsc, hlc, hpa, hro, hof, hte⟩ := (hτ ▸ ML_up 0 hS : ML nr ng np nb τ)
    obtain ⟨hP, hQ⟩ := c_17
    obtain ⟨j, hj, rfl⟩ := ul_s (n := 3) (by omega) hP
    rw [nI_clamp (by omega)]
    refine r_aload0 (pc := 22) C dX6_drift_22 ?_
    refine gX6_49 (pc := 23) C hT dX6_drift_23 ?_
    refine r_iload1 (pc := 26) C dX6_drift_26 ?_
    refine a416 (pc := 27) C hT rfl (by omega) dX6_drift_27 ?_
    refine r_istore3 (pc := 28) C dX6_drift_28 ?_
    refine r_aload0 (pc := 29) C dX6_drift_29 ?_
    refine gX6_49 (pc := 30) C hT dX6_drift_30 ?_
    refine r_iload1 (pc := 33) C dX6_drift_33 ?_
    refine r_iload2 (pc := 34) C dX6_drift_34 ?_
    refine b416 (pc := 35) C hT rfl (by omega) dX6_drift_35 ?_
    refine r_iload3 (pc := 36) C dX6_drift_36 ?_
    exact r_iret C rfl dX6_drift_37 (by first | exact ⟨fun q => absurd q hno, fun _ => ⟨rfl, rfl⟩⟩ | exact ⟨fun _ => ⟨rfl, rfl⟩, fun q => absurd rfl q⟩) (by decide) (by decide)
  · have hno : ¬ (cd2 (0 ≤ x ∧ x ≤ 3) ((-2) ≤ y ∧ y ≤ 2)) = 0 := cd2_f (by assumption)
    refine r_iconst (pc := 20) C (v := 0) dX6_drift_20 (by decide) ?_
    exact r_iret C rfl dX6_drift_21 (by first | exact ⟨fun q => absurd q hno, fun _ => ⟨rfl, rfl⟩⟩ | exact ⟨fun _ => ⟨rfl, rfl⟩, fun q => absurd rfl q⟩) (by decide) (by decide)

set_option maxRecDepth 100000 in
set_option maxHeartbeats 4000000 in
theorem c_X6_scale (l : Launch) (D : Gt) (T : List Nat) (ad : Nat → Nat) (σ : Mm) {nr ng : Nat} (hT : TG nr ng T) {np nb : Nat} (hM : ML nr ng np nb σ) (x y : Int32) : KI D l yX6_scale (uws yX6_scale cX6_scale 4 (some .int)) (RM 7 0 0) [.ref (ad 400), .int x, .int y] (T, ad, cO D ad σ) (fun r S1 => ((cd2 (0 ≤ x ∧ x ≤ 2) ((-1) ≤ y ∧ y ≤ 1)) = 0 → r = (up σ 60 0 0) 96 x.toNatClampNeg ∧ S1 = (T, ad, cO D ad (up (up σ 60 0 0) 96 x.toNatClampNeg y))) ∧ (¬ (cd2 (0 ≤ x ∧ x ≤ 2) ((-1) ≤ y ∧ y ≤ 1)) = 0 → r = 0 ∧ S1 = (T, ad, cO D ad (up σ 60 0 (cd2 (0 ≤ x ∧ x ≤ 2) ((-1) ≤ y ∧ y ≤ 1)))))) (nX) 0 0 := by
  refine KI_of (own := RX6) (L0 := [some (.ref (ad 400)), some (.int x), some (.int y), none]) (by decide +kernel) rfl (catc rfl (catc rfl (catc rfl cat0))) (Nat.le_of_ble_eq_true rfl) rfl ?_
  intro p e s m args below meth c A hnm C
  have hS := hM
  obtain ⟨hm1, hm3, hm26, hm18, hnp, hnr, hng, hnb5, hb, hsc, hlc, hpa, hro, hof, hte⟩ := hM
  refine r_aload0 (pc := 0) C dX6_scale_0 ?_
  refine r_iload1 (pc := 1) C dX6_scale_1 ?_
  refine r_iconst (pc := 2) C (v := 0) dX6_scale_2 (by decide) ?_
  refine r_iconst (pc := 3) C (v := 2) dX6_scale_3 (by decide) ?_
  refine kX6_114 (pc := 4) C (c_X6_in l D _ _ _ _) dX6_scale_4 (Nat.le_of_ble_eq_true rfl) (by decide) ?_
  rintro _ _ ⟨rfl, rfl⟩
  refine r_iload2 (pc := 7) C dX6_scale_7 ?_
  refine r_iconst (pc := 8) C (v := (-1)) dX6_scale_8 (by decide) ?_
  refine r_iconst (pc := 9) C (v := 1) dX6_scale_9 (by decide) ?_
  refine kX6_114 (pc := 10) C (c_X6_in l D _ _ _ _) dX6_scale_10 (Nat.le_of_ble_eq_true rfl) (by decide) ?_
  rintro _ _ ⟨rfl, rfl⟩
  refine kX6_124 (pc := 13) C (ask2 l D _ _ _ hT (0 ≤ x ∧ x ≤ 2) ((-1) ≤ y ∧ y ≤ 1) (by first | rfl | exact (bI_t (by with_reducible assumption)).symm | exact (bI_f (by with_reducible assumption)).symm | (refine (bI_t ?_).symm; and_intros <;> with_reducible assumption) | (refine (bI_f ?_).symm; rintro ⟨h1, h2⟩; first | exact absurd h1 (by with_reducible assumption) | exact absurd h2 (by with_reducible assumption)) | (refine (bI_f ?_).symm; rintro ⟨h1, h2, h3⟩; first | exact absurd h2 (by with_reducible assumption) | exact absurd h3 (by with_reducible assumption)) | exact bI_c (by grind) | exact (bI_t (by grind)).symm | exact (bI_f (by grind)).symm) (fun hP0 => by first | rfl | exact absurd hP0 (by with_reducible assumption) | (obtain ⟨hp1, hp2⟩ := hP0; first | exact absurd hp1 (by with_reducible assumption) | exact absurd hp2 (by with_reducible assumption)) | exact (bI_t (by with_reducible assumption)).symm | exact (bI_f (by with_reducible assumption)).symm | (refine (bI_t ?_).symm; and_intros <;> with_reducible assumption) | (refine (bI_f ?_).symm; rintro ⟨h1, h2⟩; first | exact absurd h1 (by with_reducible assumption) | exact absurd h2 (by with_reducible assumption)) | (refine (bI_f ?_).symm; rintro ⟨h1, h2, h3⟩; first | exact absurd h2 (by with_reducible assumption) | exact absurd h3 (by with_reducible assumption)) | exact bI_c (by grind) | exact (bI_t (by grind)).symm | exact (bI_f (by grind)).symm)) (hT.f (by decide)) rfl dX6_scale_13 (Nat.le_of_ble_eq_true rfl) (by decide) ?_
  rintro _ _ ⟨rfl, rfl⟩
  refine r_if_ne_b (pc := 16) C (tgt := 21) dX6_scale_16 (by decide) (fun c_16 => ?_) (fun c_16 => ?_)
  · have hok : (cd2 (0 ≤ x ∧ x ≤ 2) ((-1) ≤ y ∧ y ≤ 1)) = 0 := cd2_t c_16
    rw [hok]
    obtain ⟨τ, hτ⟩ : ∃ τ, up σ 60 0 0 = τ := ⟨_, rfl⟩
    rw [hτ]
    obtain ⟨hm1, hm3, hm26, hm18, hnp, hnr, hng, hnb5, hb, hsc, hlc, hpa, hro, hof, hte⟩ := (hτ ▸ ML_up 0 hS : ML nr ng np nb τ)
    obtain ⟨hP, hQ⟩ := c_16
    obtain ⟨j, hj, rfl⟩ := ul_s (n := 2) (by omega) hP
    rw [nI_clamp (by omega)]
    refine r_aload0 (pc := 21) C dX6_scale_21 ?_
    refine gX6_102 (pc := 22) C hT dX6_scale_22 ?_
    refine r_iload1 (pc := 25) C dX6_scale_25 ?_
    refine a436 (pc := 26) C hT rfl (by omega) dX6_scale_26 ?_
    refine r_istore3 (pc := 27) C dX6_scale_27 ?_
    refine r_aload0 (pc := 28) C dX6_scale_28 ?_
    refine gX6_102 (pc := 29) C hT dX6_scale_29 ?_
    refine r_iload1 (pc := 32) C dX6_scale_32 ?_
    refine r_iload2 (pc := 33) C dX6_scale_33 ?_
    refine b436 (pc := 34) C hT rfl (by omega) dX6_scale_34 ?_
    refine r_iload3 (pc := 35) C dX6_scale_35 ?_
    exact r_iret C rfl dX6_scale_36 (by first | exact ⟨fun q => absurd q hno, fun _ => ⟨rfl, rfl⟩⟩ | exact ⟨fun _ => ⟨rfl, rfl⟩, fun q => absurd rfl q⟩) (by decide) (by decide)
  · have hno : ¬ (cd2 (0 ≤ x ∧ x ≤ 2) ((-1) ≤ y ∧ y ≤ 1)) = 0 := cd2_f (by assumption)
    refine r_iconst (pc := 19) C (v := 0) dX6_scale_19 (by decide) ?_
    exact r_iret C rfl dX6_scale_20 (by first | exact ⟨fun q => absurd q hno, fun _ => ⟨rfl, rfl⟩⟩ | exact ⟨fun _ => ⟨rfl, rfl⟩, fun q => absurd rfl q⟩) (by decide) (by decide)

set_option maxRecDepth 100000 in
set_option maxHeartbeats 4000000 in
theorem c_X6_value (l : Launch) (D : Gt) (T : List Nat) (ad : Nat → Nat) (σ : Mm) {nr ng : Nat} (hT : TG nr ng T) {np nb : Nat} (hM : ML nr ng np nb σ) (x : Int32) : KI D l yX6_value (uws yX6_value cX6_value 2 (some .int)) (RM 7 0 0) [.ref (ad 400), .int x] (T, ad, cO D ad σ) (fun r S1 => ((cd1 (0 ≤ x ∧ x < nI nr)) = 0 → r = valM (up σ 60 0 0) x.toNatClampNeg ∧ S1 = (T, ad, cO D ad ((up σ 60 0 0)))) ∧ (¬ (cd1 (0 ≤ x ∧ x < nI nr)) = 0 → r = 0 ∧ S1 = (T, ad, cO D ad (up σ 60 0 (cd1 (0 ≤ x ∧ x < nI nr)))))) (nX) 0 0 := by
  refine KI_of (own := RX6) (L0 := [some (.ref (ad 400)), some (.int x)]) (by decide +kernel) rfl (catc rfl (catc rfl cat0)) (Nat.le_of_ble_eq_true rfl) rfl ?_
  intro p e s m args below meth c A hnm C
  have hS := hM
  obtain ⟨hm1, hm3, hm26, hm18, hnp, hnr, hng, hnb5, hb, hsc, hlc, hpa, hro, hof, hte⟩ := hM
  refine r_aload0 (pc := 0) C dX6_value_0 ?_
  refine r_aload0 (pc := 1) C dX6_value_1 ?_
  refine r_iload1 (pc := 2) C dX6_value_2 ?_
  refine kX6_131 (pc := 3) C (c_X6_isStone l D _ _ _ hT _ hm3) (hT.f (by decide)) rfl dX6_value_3 (Nat.le_of_ble_eq_true rfl) (by decide) ?_
  rintro _ _ ⟨rfl, rfl⟩
  refine kX6_148 (pc := 6) C (ask1 l D _ _ _ hT (0 ≤ x ∧ x < nI nr) (by first | rfl | exact (bI_t (by with_reducible assumption)).symm | exact (bI_f (by with_reducible assumption)).symm | (refine (bI_t ?_).symm; and_intros <;> with_reducible assumption) | (refine (bI_f ?_).symm; rintro ⟨h1, h2⟩; first | exact absurd h1 (by with_reducible assumption) | exact absurd h2 (by with_reducible assumption)) | (refine (bI_f ?_).symm; rintro ⟨h1, h2, h3⟩; first | exact absurd h2 (by with_reducible assumption) | exact absurd h3 (by with_reducible assumption)) | exact bI_c (by grind) | exact (bI_t (by grind)).symm | exact (bI_f (by grind)).symm)) (hT.f (by decide)) rfl dX6_value_6 (Nat.le_of_ble_eq_true rfl) (by decide) ?_
  rintro _ _ ⟨rfl, rfl⟩
  refine r_if_eq_b (pc := 9) C (tgt := 20) dX6_value_9 (by decide) (fun c_9 => ?_) (fun c_9 => ?_)
  · have hno : ¬ (cd1 (0 ≤ x ∧ x < nI nr)) = 0 := cd1_f (by assumption)
    refine r_iconst (pc := 20) C (v := 0) dX6_value_20 (by decide) ?_
    exact r_iret C rfl dX6_value_21 (by first | exact ⟨fun q => absurd q hno, fun _ => ⟨rfl, rfl⟩⟩ | exact ⟨fun _ => ⟨rfl, rfl⟩, fun q => absurd rfl q⟩) (by decide) (by decide)
  · have hok : (cd1 (0 ≤ x ∧ x < nI nr)) = 0 := cd1_t c_9
    rw [hok]
    obtain ⟨τ, hτ⟩ : ∃ τ, up σ 60 0 0 = τ := ⟨_, rfl⟩
    rw [hτ]
    obtain ⟨hm1, hm3, hm26, hm18, hnp, hnr, hng, hnb5, hb, hsc, hlc, hpa, hro, hof, hte⟩ := (hτ ▸ ML_up 0 hS : ML nr ng np nb τ)
    have hP := c_9
    obtain ⟨i, hi, rfl⟩ := ix_of (N := nr) (by omega) hP
    rw [nI_clamp (by omega)]
    refine r_aload0 (pc := 12) C dX6_value_12 ?_
    refine r_iload1 (pc := 13) C dX6_value_13 ?_
    refine kX6_151 (pc := 14) C (c_X6_valueOf l D _ _ _ hT (by omega) hb) (hT.f (by decide)) rfl dX6_value_14 (Nat.le_of_ble_eq_true rfl) (by decide) ?_
    rintro _ _ ⟨rfl, rfl⟩
    refine r_goto (pc := 17) C (tgt := 21) dX6_value_17 (by decide) ?_
    exact r_iret C rfl dX6_value_21 (by first | exact ⟨fun q => absurd q hno, fun _ => ⟨rfl, rfl⟩⟩ | exact ⟨fun _ => ⟨rfl, rfl⟩, fun q => absurd rfl q⟩) (by decide) (by decide)

set_option maxRecDepth 100000 in
set_option maxHeartbeats 4000000 in
theorem c_X6_offered (l : Launch) (D : Gt) (T : List Nat) (ad : Nat → Nat) (σ : Mm) {nr ng : Nat} (hT : TG nr ng T) {np nb : Nat} (hM : ML nr ng np nb σ) (x : Int32) : KI D l yX6_offered (uws yX6_offered cX6_offered 2 (some .int)) (RM 7 0 0) [.ref (ad 400), .int x] (T, ad, cO D ad σ) (fun r S1 => ((cd1 (0 ≤ x ∧ x < 5)) = 0 → r = (up σ 60 0 0) 81 x.toNatClampNeg ∧ S1 = (T, ad, cO D ad ((up σ 60 0 0)))) ∧ (¬ (cd1 (0 ≤ x ∧ x < 5)) = 0 → r = 0 ∧ S1 = (T, ad, cO D ad (up σ 60 0 (cd1 (0 ≤ x ∧ x < 5)))))) (nX) 0 0 := by
  refine KI_of (own := RX6) (L0 := [some (.ref (ad 400)), some (.int x)]) (by decide +kernel) rfl (catc rfl (catc rfl cat0)) (Nat.le_of_ble_eq_true rfl) rfl ?_
  intro p e s m args below meth c A hnm C
  have hS := hM
  obtain ⟨hm1, hm3, hm26, hm18, hnp, hnr, hng, hnb5, hb, hsc, hlc, hpa, hro, hof, hte⟩ := hM
  refine r_aload0 (pc := 0) C dX6_offered_0 ?_
  refine r_iload1 (pc := 1) C dX6_offered_1 ?_
  refine kX6_174 (pc := 2) C (c_X6_isBuyer l D _ _) dX6_offered_2 (Nat.le_of_ble_eq_true rfl) (by decide) ?_
  rintro _ _ ⟨rfl, rfl⟩
  refine kX6_148 (pc := 5) C (ask1 l D _ _ _ hT (0 ≤ x ∧ x < 5) (by first | rfl | exact (bI_t (by with_reducible assumption)).symm | exact (bI_f (by with_reducible assumption)).symm | (refine (bI_t ?_).symm; and_intros <;> with_reducible assumption) | (refine (bI_f ?_).symm; rintro ⟨h1, h2⟩; first | exact absurd h1 (by with_reducible assumption) | exact absurd h2 (by with_reducible assumption)) | (refine (bI_f ?_).symm; rintro ⟨h1, h2, h3⟩; first | exact absurd h2 (by with_reducible assumption) | exact absurd h3 (by with_reducible assumption)) | exact bI_c (by grind) | exact (bI_t (by grind)).symm | exact (bI_f (by grind)).symm)) (hT.f (by decide)) rfl dX6_offered_5 (Nat.le_of_ble_eq_true rfl) (by decide) ?_
  rintro _ _ ⟨rfl, rfl⟩
  refine r_if_eq_b (pc := 8) C (tgt := 20) dX6_offered_8 (by decide) (fun c_8 => ?_) (fun c_8 => ?_)
  · have hno : ¬ (cd1 (0 ≤ x ∧ x < 5)) = 0 := cd1_f (by assumption)
    refine r_iconst (pc := 20) C (v := 0) dX6_offered_20 (by decide) ?_
    exact r_iret C rfl dX6_offered_21 (by first | exact ⟨fun q => absurd q hno, fun _ => ⟨rfl, rfl⟩⟩ | exact ⟨fun _ => ⟨rfl, rfl⟩, fun q => absurd rfl q⟩) (by decide) (by decide)
  · have hok : (cd1 (0 ≤ x ∧ x < 5)) = 0 := cd1_t c_8
    rw [hok]
    obtain ⟨τ, hτ⟩ : ∃ τ, up σ 60 0 0 = τ := ⟨_, rfl⟩
    rw [hτ]
    obtain ⟨hm1, hm3, hm26, hm18, hnp, hnr, hng, hnb5, hb, hsc, hlc, hpa, hro, hof, hte⟩ := (hτ ▸ ML_up 0 hS : ML nr ng np nb τ)
    have hP := c_8
    obtain ⟨i, hi, rfl⟩ := ix_of (N := 5) (by omega) hP
    rw [nI_clamp (by omega)]
    refine r_aload0 (pc := 11) C dX6_offered_11 ?_
    refine gX6_62 (pc := 12) C hT dX6_offered_12 ?_
    refine r_iload1 (pc := 15) C dX6_offered_15 ?_
    refine a421 (pc := 16) C hT rfl (by omega) dX6_offered_16 ?_
    refine r_goto (pc := 17) C (tgt := 21) dX6_offered_17 (by decide) ?_
    exact r_iret C rfl dX6_offered_21 (by first | exact ⟨fun q => absurd q hno, fun _ => ⟨rfl, rfl⟩⟩ | exact ⟨fun _ => ⟨rfl, rfl⟩, fun q => absurd rfl q⟩) (by decide) (by decide)

set_option maxRecDepth 100000 in
set_option maxHeartbeats 4000000 in
theorem c_X6_plan (l : Launch) (D : Gt) (T : List Nat) (ad : Nat → Nat) (σ : Mm) {nr ng : Nat} (hT : TG nr ng T) {np nb : Nat} (hM : ML nr ng np nb σ) (x : Int32) : KI D l yX6_plan (uws yX6_plan cX6_plan 2 (some .int)) (RM 7 0 0) [.ref (ad 400), .int x] (T, ad, cO D ad σ) (fun r S1 => ((cd1 (0 ≤ x ∧ x < nI nr)) = 0 → r = nI (plS ((up σ 60 0 0) 68 x.toNatClampNeg) 12) ∧ S1 = (T, ad, cO D ad ((up σ 60 0 0)))) ∧ (¬ (cd1 (0 ≤ x ∧ x < nI nr)) = 0 → r = 0 ∧ S1 = (T, ad, cO D ad (up σ 60 0 (cd1 (0 ≤ x ∧ x < nI nr)))))) (nX) 0 0 := by
  refine KI_of (own := RX6) (L0 := [some (.ref (ad 400)), some (.int x)]) (by decide +kernel) rfl (catc rfl (catc rfl cat0)) (Nat.le_of_ble_eq_true rfl) rfl ?_
  intro p e s m args below meth c A hnm C
  have hS := hM
  obtain ⟨hm1, hm3, hm26, hm18, hnp, hnr, hng, hnb5, hb, hsc, hlc, hpa, hro, hof, hte⟩ := hM
  refine r_aload0 (pc := 0) C dX6_plan_0 ?_
  refine r_aload0 (pc := 1) C dX6_plan_1 ?_
  refine r_iload1 (pc := 2) C dX6_plan_2 ?_
  refine kX6_131 (pc := 3) C (c_X6_isStone l D _ _ _ hT _ hm3) (hT.f (by decide)) rfl dX6_plan_3 (Nat.le_of_ble_eq_true rfl) (by decide) ?_
  rintro _ _ ⟨rfl, rfl⟩
  refine kX6_148 (pc := 6) C (ask1 l D _ _ _ hT (0 ≤ x ∧ x < nI nr) (by first | rfl | exact (bI_t (by with_reducible assumption)).symm | exact (bI_f (by with_reducible assumption)).symm | (refine (bI_t ?_).symm; and_intros <;> with_reducible assumption) | (refine (bI_f ?_).symm; rintro ⟨h1, h2⟩; first | exact absurd h1 (by with_reducible assumption) | exact absurd h2 (by with_reducible assumption)) | (refine (bI_f ?_).symm; rintro ⟨h1, h2, h3⟩; first | exact absurd h2 (by with_reducible assumption) | exact absurd h3 (by with_reducible assumption)) | exact bI_c (by grind) | exact (bI_t (by grind)).symm | exact (bI_f (by grind)).symm)) (hT.f (by decide)) rfl dX6_plan_6 (Nat.le_of_ble_eq_true rfl) (by decide) ?_
  rintro _ _ ⟨rfl, rfl⟩
  refine r_if_eq_b (pc := 9) C (tgt := 20) dX6_plan_9 (by decide) (fun c_9 => ?_) (fun c_9 => ?_)
  · have hno : ¬ (cd1 (0 ≤ x ∧ x < nI nr)) = 0 := cd1_f (by assumption)
    refine r_iconst (pc := 20) C (v := 0) dX6_plan_20 (by decide) ?_
    exact r_iret C rfl dX6_plan_21 (by first | exact ⟨fun q => absurd q hno, fun _ => ⟨rfl, rfl⟩⟩ | exact ⟨fun _ => ⟨rfl, rfl⟩, fun q => absurd rfl q⟩) (by decide) (by decide)
  · have hok : (cd1 (0 ≤ x ∧ x < nI nr)) = 0 := cd1_t c_9
    rw [hok]
    obtain ⟨τ, hτ⟩ : ∃ τ, up σ 60 0 0 = τ := ⟨_, rfl⟩
    rw [hτ]
    obtain ⟨hm1, hm3, hm26, hm18, hnp, hnr, hng, hnb5, hb, hsc, hlc, hpa, hro, hof, hte⟩ := (hτ ▸ ML_up 0 hS : ML nr ng np nb τ)
    have hP := c_9
    obtain ⟨i, hi, rfl⟩ := ix_of (N := nr) (by omega) hP
    rw [nI_clamp (by omega)]
    refine r_aload0 (pc := 12) C dX6_plan_12 ?_
    refine r_iload1 (pc := 13) C dX6_plan_13 ?_
    refine kX6_188 (pc := 14) C (c_X6_planOf l D _ _ _ hT (by omega)) (hT.f (by decide)) rfl dX6_plan_14 (Nat.le_of_ble_eq_true rfl) (by decide) ?_
    rintro _ _ ⟨rfl, rfl⟩
    refine r_goto (pc := 17) C (tgt := 21) dX6_plan_17 (by decide) ?_
    exact r_iret C rfl dX6_plan_21 (by first | exact ⟨fun q => absurd q hno, fun _ => ⟨rfl, rfl⟩⟩ | exact ⟨fun _ => ⟨rfl, rfl⟩, fun q => absurd rfl q⟩) (by decide) (by decide)

set_option maxRecDepth 100000 in
set_option maxHeartbeats 4000000 in
theorem c_X6_planAnew (l : Launch) (D : Gt) (T : List Nat) (ad : Nat → Nat) (σ : Mm) {nr ng : Nat} (hT : TG nr ng T) {np nb : Nat} (hM : ML nr ng np nb σ) (x : Int32) : KI D l yX6_planAnew (uws yX6_planAnew cX6_planAnew 2 (some .int)) (RM 7 0 0) [.ref (ad 400), .int x] (T, ad, cO D ad σ) (fun r S1 => ((cd1 (0 ≤ x ∧ x < nI nr)) = 0 → r = nI (plS ((up σ 60 0 0) 68 x.toNatClampNeg) 12) ∧ S1 = (T, ad, cO D ad ((up σ 60 0 0)))) ∧ (¬ (cd1 (0 ≤ x ∧ x < nI nr)) = 0 → r = 0 ∧ S1 = (T, ad, cO D ad (up σ 60 0 (cd1 (0 ≤ x ∧ x < nI nr)))))) (nX) 0 0 := by
  refine KI_of (own := RX6) (L0 := [some (.ref (ad 400)), some (.int x)]) (by decide +kernel) rfl (catc rfl (catc rfl cat0)) (Nat.le_of_ble_eq_true rfl) rfl ?_
  intro p e s m args below meth c A hnm C
  have hS := hM
  obtain ⟨hm1, hm3, hm26, hm18, hnp, hnr, hng, hnb5, hb, hsc, hlc, hpa, hro, hof, hte⟩ := hM
  refine r_aload0 (pc := 0) C dX6_planAnew_0 ?_
  refine r_aload0 (pc := 1) C dX6_planAnew_1 ?_
  refine r_iload1 (pc := 2) C dX6_planAnew_2 ?_
  refine kX6_131 (pc := 3) C (c_X6_isStone l D _ _ _ hT _ hm3) (hT.f (by decide)) rfl dX6_planAnew_3 (Nat.le_of_ble_eq_true rfl) (by decide) ?_
  rintro _ _ ⟨rfl, rfl⟩
  refine kX6_148 (pc := 6) C (ask1 l D _ _ _ hT (0 ≤ x ∧ x < nI nr) (by first | rfl | exact (bI_t (by with_reducible assumption)).symm | exact (bI_f (by with_reducible assumption)).symm | (refine (bI_t ?_).symm; and_intros <;> with_reducible assumption) | (refine (bI_f ?_).symm; rintro ⟨h1, h2⟩; first | exact absurd h1 (by with_reducible assumption) | exact absurd h2 (by with_reducible assumption)) | (refine (bI_f ?_).symm; rintro ⟨h1, h2, h3⟩; first | exact absurd h2 (by with_reducible assumption) | exact absurd h3 (by with_reducible assumption)) | exact bI_c (by grind) | exact (bI_t (by grind)).symm | exact (bI_f (by grind)).symm)) (hT.f (by decide)) rfl dX6_planAnew_6 (Nat.le_of_ble_eq_true rfl) (by decide) ?_
  rintro _ _ ⟨rfl, rfl⟩
  refine r_if_eq_b (pc := 9) C (tgt := 20) dX6_planAnew_9 (by decide) (fun c_9 => ?_) (fun c_9 => ?_)
  · have hno : ¬ (cd1 (0 ≤ x ∧ x < nI nr)) = 0 := cd1_f (by assumption)
    refine r_iconst (pc := 20) C (v := 0) dX6_planAnew_20 (by decide) ?_
    exact r_iret C rfl dX6_planAnew_21 (by first | exact ⟨fun q => absurd q hno, fun _ => ⟨rfl, rfl⟩⟩ | exact ⟨fun _ => ⟨rfl, rfl⟩, fun q => absurd rfl q⟩) (by decide) (by decide)
  · have hok : (cd1 (0 ≤ x ∧ x < nI nr)) = 0 := cd1_t c_9
    rw [hok]
    obtain ⟨τ, hτ⟩ : ∃ τ, up σ 60 0 0 = τ := ⟨_, rfl⟩
    rw [hτ]
    obtain ⟨hm1, hm3, hm26, hm18, hnp, hnr, hng, hnb5, hb, hsc, hlc, hpa, hro, hof, hte⟩ := (hτ ▸ ML_up 0 hS : ML nr ng np nb τ)
    have hP := c_9
    obtain ⟨i, hi, rfl⟩ := ix_of (N := nr) (by omega) hP
    rw [nI_clamp (by omega)]
    refine r_aload0 (pc := 12) C dX6_planAnew_12 ?_
    refine r_iload1 (pc := 13) C dX6_planAnew_13 ?_
    refine kX6_188 (pc := 14) C (c_X6_planOf l D _ _ _ hT (by omega)) (hT.f (by decide)) rfl dX6_planAnew_14 (Nat.le_of_ble_eq_true rfl) (by decide) ?_
    rintro _ _ ⟨rfl, rfl⟩
    refine r_goto (pc := 17) C (tgt := 21) dX6_planAnew_17 (by decide) ?_
    exact r_iret C rfl dX6_planAnew_21 (by first | exact ⟨fun q => absurd q hno, fun _ => ⟨rfl, rfl⟩⟩ | exact ⟨fun _ => ⟨rfl, rfl⟩, fun q => absurd rfl q⟩) (by decide) (by decide)


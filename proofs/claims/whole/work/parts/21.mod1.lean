set_option maxRecDepth 100000 in
set_option maxHeartbeats 4000000 in
theorem c_X6_thrown (l : Launch) (D : Gt) (T : List Nat) (ad : Nat → Nat) (σ : Mm) {nr ng : Nat} (hT : TG nr ng T) : KI D l yX6_thrown (uws yX6_thrown cX6_thrown 1 (some .int)) (RM 1 0 0) [.ref (ad 400)] (T, ad, cO D ad σ) (fun r S1 => r = σ 60 0 ∧ S1 = (T, ad, cO D ad σ)) (nX) 0 0 := by
  refine KI_of (own := RX6) (L0 := [some (.ref (ad 400))]) (by decide +kernel) rfl (catc rfl cat0) (Nat.le_of_ble_eq_true rfl) rfl ?_
  intro p e s m args below meth c A hnm C
  refine r_aload0 (pc := 0) C dX6_thrown_0 ?_
  refine gX6_108 (pc := 1) C hT dX6_thrown_1 ?_
  exact r_iret C rfl dX6_thrown_4 (⟨rfl, rfl⟩) (by decide) (by decide)

set_option maxRecDepth 100000 in
set_option maxHeartbeats 4000000 in
theorem c_X6_asked (l : Launch) (D : Gt) (T : List Nat) (ad : Nat → Nat) (σ : Mm) {nr ng : Nat} (hT : TG nr ng T) (x : Int32) (hx : narrow .boolean (.int x) = .int x) : KI D l yX6_asked (uws yX6_asked cX6_asked 2 (some .boolean)) (RM 1 0 0) [.ref (ad 400), .int x] (T, ad, cO D ad σ) (fun r S1 => r = x ∧ S1 = (T, ad, cO D ad (up σ 60 0 (iF (x = 0) 1 0)))) (nX) 0 0 := by
  refine KI_of (own := RX6) (L0 := [some (.ref (ad 400)), some (.int x)]) (by decide +kernel) rfl (catc rfl (catc rfl cat0)) (Nat.le_of_ble_eq_true rfl) rfl ?_
  intro p e s m args below meth c A hnm C
  refine r_aload0 (pc := 0) C dX6_asked_0 ?_
  refine r_iload1 (pc := 1) C dX6_asked_1 ?_
  refine r_if_eq (pc := 2) C (tgt := 9) dX6_asked_2 (by decide) (fun c_2 => ?_) (fun c_2 => ?_)
  · refine r_iconst (pc := 9) C (v := 1) dX6_asked_9 (by decide) ?_
    refine pX6_108 (pc := 10) C hT dX6_asked_10 ?_
    refine r_iload1 (pc := 13) C dX6_asked_13 ?_
    exact r_zret C rfl hx dX6_asked_14 (⟨rfl, by simp [iF, *]⟩) (by decide) (by decide)
  · refine r_iconst (pc := 5) C (v := 0) dX6_asked_5 (by decide) ?_
    refine r_goto (pc := 6) C (tgt := 10) dX6_asked_6 (by decide) ?_
    refine pX6_108 (pc := 10) C hT dX6_asked_10 ?_
    refine r_iload1 (pc := 13) C dX6_asked_13 ?_
    exact r_zret C rfl hx dX6_asked_14 (⟨rfl, by simp [iF, *]⟩) (by decide) (by decide)

set_option maxRecDepth 100000 in
set_option maxHeartbeats 4000000 in
theorem c_X6_asked_ (l : Launch) (D : Gt) (T : List Nat) (ad : Nat → Nat) (σ : Mm) {nr ng : Nat} (hT : TG nr ng T) (x y : Int32) : KI D l yX6_asked_ (uws yX6_asked_ cX6_asked_ 3 (some .boolean)) (RM 1 0 0) [.ref (ad 400), .int x, .int y] (T, ad, cO D ad σ) (fun r S1 => r = bI (¬ x = 0 ∧ ¬ y = 0) ∧ S1 = (T, ad, cO D ad (up σ 60 0 (iF (x = 0) 1 (iF (y = 0) 2 0))))) (nX) 0 0 := by
  refine KI_of (own := RX6) (L0 := [some (.ref (ad 400)), some (.int x), some (.int y)]) (by decide +kernel) rfl (catc rfl (catc rfl (catc rfl cat0))) (Nat.le_of_ble_eq_true rfl) rfl ?_
  intro p e s m args below meth c A hnm C
  refine r_aload0 (pc := 0) C dX6_asked__0 ?_
  refine r_iload1 (pc := 1) C dX6_asked__1 ?_
  refine r_if_ne (pc := 2) C (tgt := 9) dX6_asked__2 (by decide) (fun c_2 => ?_) (fun c_2 => ?_)
  · refine r_iload2 (pc := 9) C dX6_asked__9 ?_
    refine r_if_eq (pc := 10) C (tgt := 17) dX6_asked__10 (by decide) (fun c_10 => ?_) (fun c_10 => ?_)
    · refine r_iconst (pc := 17) C (v := 2) dX6_asked__17 (by decide) ?_
      refine pX6_108 (pc := 18) C hT dX6_asked__18 ?_
      refine r_aload0 (pc := 21) C dX6_asked__21 ?_
      refine gX6_108 (pc := 22) C hT dX6_asked__22 ?_
      rw [up_self]
      refine r_if_ne (pc := 25) C (tgt := 32) dX6_asked__25 (by decide) (fun c_25 => ?_) (fun c_25 => ?_)
      · refine r_iconst (pc := 32) C (v := 0) dX6_asked__32 (by decide) ?_
        exact r_zret C rfl rfl dX6_asked__33 (by first | exact absurd (by assumption : (2 : Int32) = 0) (by decide) | exact absurd (by assumption : (3 : Int32) = 0) (by decide) | exact absurd (by assumption : (1 : Int32) = 0) (by decide) | exact absurd rfl (by assumption : ¬ (0 : Int32) = 0) | simp [bI, iF, up_self, *]) (by decide) (by decide)
      · refine r_iconst (pc := 28) C (v := 1) dX6_asked__28 (by decide) ?_
        refine r_goto (pc := 29) C (tgt := 33) dX6_asked__29 (by decide) ?_
        exact r_zret C rfl rfl dX6_asked__33 (by first | exact absurd (by assumption : (2 : Int32) = 0) (by decide) | exact absurd (by assumption : (3 : Int32) = 0) (by decide) | exact absurd (by assumption : (1 : Int32) = 0) (by decide) | exact absurd rfl (by assumption : ¬ (0 : Int32) = 0) | simp [bI, iF, up_self, *]) (by decide) (by decide)
    · refine r_iconst (pc := 13) C (v := 0) dX6_asked__13 (by decide) ?_
      refine r_goto (pc := 14) C (tgt := 18) dX6_asked__14 (by decide) ?_
      refine pX6_108 (pc := 18) C hT dX6_asked__18 ?_
      refine r_aload0 (pc := 21) C dX6_asked__21 ?_
      refine gX6_108 (pc := 22) C hT dX6_asked__22 ?_
      rw [up_self]
      refine r_if_ne (pc := 25) C (tgt := 32) dX6_asked__25 (by decide) (fun c_25 => ?_) (fun c_25 => ?_)
      · refine r_iconst (pc := 32) C (v := 0) dX6_asked__32 (by decide) ?_
        exact r_zret C rfl rfl dX6_asked__33 (by first | exact absurd (by assumption : (2 : Int32) = 0) (by decide) | exact absurd (by assumption : (3 : Int32) = 0) (by decide) | exact absurd (by assumption : (1 : Int32) = 0) (by decide) | exact absurd rfl (by assumption : ¬ (0 : Int32) = 0) | simp [bI, iF, up_self, *]) (by decide) (by decide)
      · refine r_iconst (pc := 28) C (v := 1) dX6_asked__28 (by decide) ?_
        refine r_goto (pc := 29) C (tgt := 33) dX6_asked__29 (by decide) ?_
        exact r_zret C rfl rfl dX6_asked__33 (by first | exact absurd (by assumption : (2 : Int32) = 0) (by decide) | exact absurd (by assumption : (3 : Int32) = 0) (by decide) | exact absurd (by assumption : (1 : Int32) = 0) (by decide) | exact absurd rfl (by assumption : ¬ (0 : Int32) = 0) | simp [bI, iF, up_self, *]) (by decide) (by decide)
  · refine r_iconst (pc := 5) C (v := 1) dX6_asked__5 (by decide) ?_
    refine r_goto (pc := 6) C (tgt := 18) dX6_asked__6 (by decide) ?_
    refine pX6_108 (pc := 18) C hT dX6_asked__18 ?_
    refine r_aload0 (pc := 21) C dX6_asked__21 ?_
    refine gX6_108 (pc := 22) C hT dX6_asked__22 ?_
    rw [up_self]
    refine r_if_ne (pc := 25) C (tgt := 32) dX6_asked__25 (by decide) (fun c_25 => ?_) (fun c_25 => ?_)
    · refine r_iconst (pc := 32) C (v := 0) dX6_asked__32 (by decide) ?_
      exact r_zret C rfl rfl dX6_asked__33 (by first | exact absurd (by assumption : (2 : Int32) = 0) (by decide) | exact absurd (by assumption : (3 : Int32) = 0) (by decide) | exact absurd (by assumption : (1 : Int32) = 0) (by decide) | exact absurd rfl (by assumption : ¬ (0 : Int32) = 0) | simp [bI, iF, up_self, *]) (by decide) (by decide)
    · refine r_iconst (pc := 28) C (v := 1) dX6_asked__28 (by decide) ?_
      refine r_goto (pc := 29) C (tgt := 33) dX6_asked__29 (by decide) ?_
      exact r_zret C rfl rfl dX6_asked__33 (by first | exact absurd (by assumption : (2 : Int32) = 0) (by decide) | exact absurd (by assumption : (3 : Int32) = 0) (by decide) | exact absurd (by assumption : (1 : Int32) = 0) (by decide) | exact absurd rfl (by assumption : ¬ (0 : Int32) = 0) | simp [bI, iF, up_self, *]) (by decide) (by decide)

set_option maxRecDepth 100000 in
set_option maxHeartbeats 4000000 in
theorem c_X6_asked__ (l : Launch) (D : Gt) (T : List Nat) (ad : Nat → Nat) (σ : Mm) {nr ng : Nat} (hT : TG nr ng T) (x y v : Int32) : KI D l yX6_asked__ (uws yX6_asked__ cX6_asked__ 4 (some .boolean)) (RM 1 0 0) [.ref (ad 400), .int x, .int y, .int v] (T, ad, cO D ad σ) (fun r S1 => r = bI (¬ x = 0 ∧ ¬ y = 0 ∧ ¬ v = 0) ∧ S1 = (T, ad, cO D ad (up σ 60 0 (iF (x = 0) 1 (iF (y = 0) 2 (iF (v = 0) 3 0)))))) (nX) 0 0 := by
  refine KI_of (own := RX6) (L0 := [some (.ref (ad 400)), some (.int x), some (.int y), some (.int v)]) (by decide +kernel) rfl (catc rfl (catc rfl (catc rfl (catc rfl cat0)))) (Nat.le_of_ble_eq_true rfl) rfl ?_
  intro p e s m args below meth c A hnm C
  refine r_aload0 (pc := 0) C dX6_asked___0 ?_
  refine r_iload1 (pc := 1) C dX6_asked___1 ?_
  refine r_if_ne (pc := 2) C (tgt := 9) dX6_asked___2 (by decide) (fun c_2 => ?_) (fun c_2 => ?_)
  · refine r_iload2 (pc := 9) C dX6_asked___9 ?_
    refine r_if_ne (pc := 10) C (tgt := 17) dX6_asked___10 (by decide) (fun c_10 => ?_) (fun c_10 => ?_)
    · refine r_iload3 (pc := 17) C dX6_asked___17 ?_
      refine r_if_eq (pc := 18) C (tgt := 25) dX6_asked___18 (by decide) (fun c_18 => ?_) (fun c_18 => ?_)
      · refine r_iconst (pc := 25) C (v := 3) dX6_asked___25 (by decide) ?_
        refine pX6_108 (pc := 26) C hT dX6_asked___26 ?_
        refine r_aload0 (pc := 29) C dX6_asked___29 ?_
        refine gX6_108 (pc := 30) C hT dX6_asked___30 ?_
        rw [up_self]
        refine r_if_ne (pc := 33) C (tgt := 40) dX6_asked___33 (by decide) (fun c_33 => ?_) (fun c_33 => ?_)
        · refine r_iconst (pc := 40) C (v := 0) dX6_asked___40 (by decide) ?_
          exact r_zret C rfl rfl dX6_asked___41 (by first | exact absurd (by assumption : (2 : Int32) = 0) (by decide) | exact absurd (by assumption : (3 : Int32) = 0) (by decide) | exact absurd (by assumption : (1 : Int32) = 0) (by decide) | exact absurd rfl (by assumption : ¬ (0 : Int32) = 0) | simp [bI, iF, up_self, *]) (by decide) (by decide)
        · refine r_iconst (pc := 36) C (v := 1) dX6_asked___36 (by decide) ?_
          refine r_goto (pc := 37) C (tgt := 41) dX6_asked___37 (by decide) ?_
          exact r_zret C rfl rfl dX6_asked___41 (by first | exact absurd (by assumption : (2 : Int32) = 0) (by decide) | exact absurd (by assumption : (3 : Int32) = 0) (by decide) | exact absurd (by assumption : (1 : Int32) = 0) (by decide) | exact absurd rfl (by assumption : ¬ (0 : Int32) = 0) | simp [bI, iF, up_self, *]) (by decide) (by decide)
      · refine r_iconst (pc := 21) C (v := 0) dX6_asked___21 (by decide) ?_
        refine r_goto (pc := 22) C (tgt := 26) dX6_asked___22 (by decide) ?_
        refine pX6_108 (pc := 26) C hT dX6_asked___26 ?_
        refine r_aload0 (pc := 29) C dX6_asked___29 ?_
        refine gX6_108 (pc := 30) C hT dX6_asked___30 ?_
        rw [up_self]
        refine r_if_ne (pc := 33) C (tgt := 40) dX6_asked___33 (by decide) (fun c_33 => ?_) (fun c_33 => ?_)
        · refine r_iconst (pc := 40) C (v := 0) dX6_asked___40 (by decide) ?_
          exact r_zret C rfl rfl dX6_asked___41 (by first | exact absurd (by assumption : (2 : Int32) = 0) (by decide) | exact absurd (by assumption : (3 : Int32) = 0) (by decide) | exact absurd (by assumption : (1 : Int32) = 0) (by decide) | exact absurd rfl (by assumption : ¬ (0 : Int32) = 0) | simp [bI, iF, up_self, *]) (by decide) (by decide)
        · refine r_iconst (pc := 36) C (v := 1) dX6_asked___36 (by decide) ?_
          refine r_goto (pc := 37) C (tgt := 41) dX6_asked___37 (by decide) ?_
          exact r_zret C rfl rfl dX6_asked___41 (by first | exact absurd (by assumption : (2 : Int32) = 0) (by decide) | exact absurd (by assumption : (3 : Int32) = 0) (by decide) | exact absurd (by assumption : (1 : Int32) = 0) (by decide) | exact absurd rfl (by assumption : ¬ (0 : Int32) = 0) | simp [bI, iF, up_self, *]) (by decide) (by decide)
    · refine r_iconst (pc := 13) C (v := 2) dX6_asked___13 (by decide) ?_
      refine r_goto (pc := 14) C (tgt := 26) dX6_asked___14 (by decide) ?_
      refine pX6_108 (pc := 26) C hT dX6_asked___26 ?_
      refine r_aload0 (pc := 29) C dX6_asked___29 ?_
      refine gX6_108 (pc := 30) C hT dX6_asked___30 ?_
      rw [up_self]
      refine r_if_ne (pc := 33) C (tgt := 40) dX6_asked___33 (by decide) (fun c_33 => ?_) (fun c_33 => ?_)
      · refine r_iconst (pc := 40) C (v := 0) dX6_asked___40 (by decide) ?_
        exact r_zret C rfl rfl dX6_asked___41 (by first | exact absurd (by assumption : (2 : Int32) = 0) (by decide) | exact absurd (by assumption : (3 : Int32) = 0) (by decide) | exact absurd (by assumption : (1 : Int32) = 0) (by decide) | exact absurd rfl (by assumption : ¬ (0 : Int32) = 0) | simp [bI, iF, up_self, *]) (by decide) (by decide)
      · refine r_iconst (pc := 36) C (v := 1) dX6_asked___36 (by decide) ?_
        refine r_goto (pc := 37) C (tgt := 41) dX6_asked___37 (by decide) ?_
        exact r_zret C rfl rfl dX6_asked___41 (by first | exact absurd (by assumption : (2 : Int32) = 0) (by decide) | exact absurd (by assumption : (3 : Int32) = 0) (by decide) | exact absurd (by assumption : (1 : Int32) = 0) (by decide) | exact absurd rfl (by assumption : ¬ (0 : Int32) = 0) | simp [bI, iF, up_self, *]) (by decide) (by decide)
  · refine r_iconst (pc := 5) C (v := 1) dX6_asked___5 (by decide) ?_
    refine r_goto (pc := 6) C (tgt := 26) dX6_asked___6 (by decide) ?_
    refine pX6_108 (pc := 26) C hT dX6_asked___26 ?_
    refine r_aload0 (pc := 29) C dX6_asked___29 ?_
    refine gX6_108 (pc := 30) C hT dX6_asked___30 ?_
    rw [up_self]
    refine r_if_ne (pc := 33) C (tgt := 40) dX6_asked___33 (by decide) (fun c_33 => ?_) (fun c_33 => ?_)
    · refine r_iconst (pc := 40) C (v := 0) dX6_asked___40 (by decide) ?_
      exact r_zret C rfl rfl dX6_asked___41 (by first | exact absurd (by assumption : (2 : Int32) = 0) (by decide) | exact absurd (by assumption : (3 : Int32) = 0) (by decide) | exact absurd (by assumption : (1 : Int32) = 0) (by decide) | exact absurd rfl (by assumption : ¬ (0 : Int32) = 0) | simp [bI, iF, up_self, *]) (by decide) (by decide)
    · refine r_iconst (pc := 36) C (v := 1) dX6_asked___36 (by decide) ?_
      refine r_goto (pc := 37) C (tgt := 41) dX6_asked___37 (by decide) ?_
      exact r_zret C rfl rfl dX6_asked___41 (by first | exact absurd (by assumption : (2 : Int32) = 0) (by decide) | exact absurd (by assumption : (3 : Int32) = 0) (by decide) | exact absurd (by assumption : (1 : Int32) = 0) (by decide) | exact absurd rfl (by assumption : ¬ (0 : Int32) = 0) | simp [bI, iF, up_self, *]) (by decide) (by decide)

set_option maxRecDepth 100000 in
set_option maxHeartbeats 4000000 in
theorem c_X6_in (l : Launch) (D : Gt) (S : St) (x a b : Int32) : KI D l yX6_in (uws yX6_in cX6_in 3 (some .boolean)) (RM 1 0 0) [.int x, .int a, .int b] S (fun r S1 => r = bI (a ≤ x ∧ x ≤ b) ∧ S1 = S) (nX) 0 0 := by
  refine KI_of (own := RX6) (L0 := [some (.int x), some (.int a), some (.int b)]) (by decide +kernel) rfl (catc rfl (catc rfl (catc rfl cat0))) (Nat.le_of_ble_eq_true rfl) rfl ?_
  intro p e s m args below meth c A hnm C
  refine r_iload0 (pc := 0) C dX6_in_0 ?_
  refine r_iload1 (pc := 1) C dX6_in_1 ?_
  refine r_icmp_lt (pc := 2) C (tgt := 14) dX6_in_2 (by decide) (fun c_2 => ?_) (fun c_2 => ?_)
  · refine r_iconst (pc := 14) C (v := 0) dX6_in_14 (by decide) ?_
    exact r_zret C rfl rfl dX6_in_15 (by first | exact ⟨(bI_t (by grind)).symm, rfl⟩ | exact ⟨(bI_f (by grind)).symm, rfl⟩) (by decide) (by decide)
  · refine r_iload0 (pc := 5) C dX6_in_5 ?_
    refine r_iload2 (pc := 6) C dX6_in_6 ?_
    refine r_icmp_gt (pc := 7) C (tgt := 14) dX6_in_7 (by decide) (fun c_7 => ?_) (fun c_7 => ?_)
    · refine r_iconst (pc := 14) C (v := 0) dX6_in_14 (by decide) ?_
      exact r_zret C rfl rfl dX6_in_15 (by first | exact ⟨(bI_t (by grind)).symm, rfl⟩ | exact ⟨(bI_f (by grind)).symm, rfl⟩) (by decide) (by decide)
    · refine r_iconst (pc := 10) C (v := 1) dX6_in_10 (by decide) ?_
      refine r_goto (pc := 11) C (tgt := 15) dX6_in_11 (by decide) ?_
      exact r_zret C rfl rfl dX6_in_15 (by first | exact ⟨(bI_t (by grind)).symm, rfl⟩ | exact ⟨(bI_f (by grind)).symm, rfl⟩) (by decide) (by decide)

set_option maxRecDepth 100000 in
set_option maxHeartbeats 4000000 in
theorem c_X6_isStone (l : Launch) (D : Gt) (T : List Nat) (ad : Nat → Nat) (σ : Mm) {nr ng : Nat} (hT : TG nr ng T) (x : Int32) (hn : σ 60 3 = nI nr) : KI D l yX6_isStone (uws yX6_isStone cX6_isStone 2 (some .boolean)) (RM 2 0 0) [.ref (ad 400), .int x] (T, ad, cO D ad σ) (fun r S1 => r = bI (0 ≤ x ∧ x < nI nr) ∧ S1 = (T, ad, cO D ad σ)) (nX) 0 0 := by
  refine KI_of (own := RX6) (L0 := [some (.ref (ad 400)), some (.int x)]) (by decide +kernel) rfl (catc rfl (catc rfl cat0)) (Nat.le_of_ble_eq_true rfl) rfl ?_
  intro p e s m args below meth c A hnm C
  refine r_iload1 (pc := 0) C dX6_isStone_0 ?_
  refine r_iconst (pc := 1) C (v := 0) dX6_isStone_1 (by decide) ?_
  refine r_aload0 (pc := 2) C dX6_isStone_2 ?_
  refine gX6_111 (pc := 3) C hT dX6_isStone_3 ?_
  refine r_iconst (pc := 6) C (v := 1) dX6_isStone_6 (by decide) ?_
  rw [hn]
  refine r_isub (pc := 7) C dX6_isStone_7 ?_
  refine kX6_114 (pc := 8) C (c_X6_in l D _ _ _ _) dX6_isStone_8 (Nat.le_of_ble_eq_true rfl) (by decide) ?_
  rintro _ _ ⟨rfl, rfl⟩
  exact r_zret C rfl bI_n dX6_isStone_11 (⟨bI_c (by rw [le_pred (by have := hT.1; have := hT.2.1; omega)]), rfl⟩) (by decide) (by decide)

set_option maxRecDepth 100000 in
set_option maxHeartbeats 4000000 in
theorem c_X6_isPolished (l : Launch) (D : Gt) (T : List Nat) (ad : Nat → Nat) (σ : Mm) {nr ng : Nat} (hT : TG nr ng T) (x : Int32) (hn : σ 60 26 = nI ng) : KI D l yX6_isPolished (uws yX6_isPolished cX6_isPolished 2 (some .boolean)) (RM 2 0 0) [.ref (ad 400), .int x] (T, ad, cO D ad σ) (fun r S1 => r = bI (0 ≤ x ∧ x < nI ng) ∧ S1 = (T, ad, cO D ad σ)) (nX) 0 0 := by
  refine KI_of (own := RX6) (L0 := [some (.ref (ad 400)), some (.int x)]) (by decide +kernel) rfl (catc rfl (catc rfl cat0)) (Nat.le_of_ble_eq_true rfl) rfl ?_
  intro p e s m args below meth c A hnm C
  refine r_iload1 (pc := 0) C dX6_isPolished_0 ?_
  refine r_iconst (pc := 1) C (v := 0) dX6_isPolished_1 (by decide) ?_
  refine r_aload0 (pc := 2) C dX6_isPolished_2 ?_
  refine gX6_118 (pc := 3) C hT dX6_isPolished_3 ?_
  refine r_iconst (pc := 6) C (v := 1) dX6_isPolished_6 (by decide) ?_
  rw [hn]
  refine r_isub (pc := 7) C dX6_isPolished_7 ?_
  refine kX6_114 (pc := 8) C (c_X6_in l D _ _ _ _) dX6_isPolished_8 (Nat.le_of_ble_eq_true rfl) (by decide) ?_
  rintro _ _ ⟨rfl, rfl⟩
  exact r_zret C rfl bI_n dX6_isPolished_11 (⟨bI_c (by rw [le_pred (by have := hT.1; have := hT.2.1; omega)]), rfl⟩) (by decide) (by decide)

set_option maxRecDepth 100000 in
set_option maxHeartbeats 4000000 in
theorem c_X6_isBuyer (l : Launch) (D : Gt) (S : St) (x : Int32) : KI D l yX6_isBuyer (uws yX6_isBuyer cX6_isBuyer 1 (some .boolean)) (RM 2 0 0) [.int x] S (fun r S1 => r = bI (0 ≤ x ∧ x < 5) ∧ S1 = S) (nX) 0 0 := by
  refine KI_of (own := RX6) (L0 := [some (.int x)]) (by decide +kernel) rfl (catc rfl cat0) (Nat.le_of_ble_eq_true rfl) rfl ?_
  intro p e s m args below meth c A hnm C
  refine r_iload0 (pc := 0) C dX6_isBuyer_0 ?_
  refine r_iconst (pc := 1) C (v := 0) dX6_isBuyer_1 (by decide) ?_
  refine r_iconst (pc := 2) C (v := 4) dX6_isBuyer_2 (by decide) ?_
  refine kX6_114 (pc := 3) C (c_X6_in l D _ _ _ _) dX6_isBuyer_3 (Nat.le_of_ble_eq_true rfl) (by decide) ?_
  rintro _ _ ⟨rfl, rfl⟩
  exact r_zret C rfl bI_n dX6_isBuyer_6 (⟨bI_c (by grind), rfl⟩) (by decide) (by decide)

set_option maxRecDepth 100000 in
set_option maxHeartbeats 4000000 in
theorem c_X6_within (l : Launch) (D : Gt) (S : St) (x a : Int32) (ha : 0 ≤ a) : KI D l yX6_within (uws yX6_within cX6_within 2 (some .int)) (RM 1 0 0) [.int x, .int a] S (fun r S1 => r = mxI 0 (mnI a x) ∧ S1 = S) (nX) 0 0 := by
  refine KI_of (own := RX6) (L0 := [some (.int x), some (.int a)]) (by decide +kernel) rfl (catc rfl (catc rfl cat0)) (Nat.le_of_ble_eq_true rfl) rfl ?_
  intro p e s m args below meth c A hnm C
  refine r_iload0 (pc := 0) C dX6_within_0 ?_
  refine r_if_ge (pc := 1) C (tgt := 8) dX6_within_1 (by decide) (fun c_1 => ?_) (fun c_1 => ?_)
  · refine r_iload0 (pc := 8) C dX6_within_8 ?_
    refine r_iload1 (pc := 9) C dX6_within_9 ?_
    refine r_icmp_le (pc := 10) C (tgt := 17) dX6_within_10 (by decide) (fun c_10 => ?_) (fun c_10 => ?_)
    · refine r_iload0 (pc := 17) C dX6_within_17 ?_
      exact r_iret C rfl dX6_within_18 (⟨by unfold mxI mnI; grind, rfl⟩) (by decide) (by decide)
    · refine r_iload1 (pc := 13) C dX6_within_13 ?_
      refine r_goto (pc := 14) C (tgt := 18) dX6_within_14 (by decide) ?_
      exact r_iret C rfl dX6_within_18 (⟨by unfold mxI mnI; grind, rfl⟩) (by decide) (by decide)
  · refine r_iconst (pc := 4) C (v := 0) dX6_within_4 (by decide) ?_
    refine r_goto (pc := 5) C (tgt := 18) dX6_within_5 (by decide) ?_
    exact r_iret C rfl dX6_within_18 (⟨by unfold mxI mnI; grind, rfl⟩) (by decide) (by decide)

set_option maxRecDepth 100000 in
set_option maxHeartbeats 4000000 in
theorem c_X6_middle (l : Launch) (D : Gt) (S : St) (x y v : Int32) : KI D l yX6_middle (uws yX6_middle cX6_middle 5 (some .int)) (RM 1 0 0) [.int x, .int y, .int v] S (fun r S1 => r = mid3 x y v ∧ S1 = S) (nX) 0 0 := by
  refine KI_of (own := RX6) (L0 := [some (.int x), some (.int y), some (.int v), none, none]) (by decide +kernel) rfl (catc rfl (catc rfl (catc rfl cat0))) (Nat.le_of_ble_eq_true rfl) rfl ?_
  intro p e s m args below meth c A hnm C
  refine r_iload0 (pc := 0) C dX6_middle_0 ?_
  refine r_iload1 (pc := 1) C dX6_middle_1 ?_
  refine r_icmp_ge (pc := 2) C (tgt := 9) dX6_middle_2 (by decide) (fun c_2 => ?_) (fun c_2 => ?_)
  · refine r_iload1 (pc := 9) C dX6_middle_9 ?_
    refine r_istore3 (pc := 10) C dX6_middle_10 ?_
    refine r_iload0 (pc := 11) C dX6_middle_11 ?_
    refine r_iload1 (pc := 12) C dX6_middle_12 ?_
    refine r_icmp_ge (pc := 13) C (tgt := 20) dX6_middle_13 (by decide) (fun c_13 => ?_) (fun c_13 => ?_)
    · refine r_iload0 (pc := 20) C dX6_middle_20 ?_
      refine r_istore4 (pc := 21) C dX6_middle_21 ?_
      refine r_iload2 (pc := 23) C dX6_middle_23 ?_
      refine r_iload3 (pc := 24) C dX6_middle_24 ?_
      refine r_icmp_ge (pc := 25) C (tgt := 32) dX6_middle_25 (by decide) (fun c_25 => ?_) (fun c_25 => ?_)
      · refine r_iload2 (pc := 32) C dX6_middle_32 ?_
        refine r_iload4 (pc := 33) C dX6_middle_33 ?_
        refine r_icmp_le (pc := 35) C (tgt := 43) dX6_middle_35 (by decide) (fun c_35 => ?_) (fun c_35 => ?_)
        · refine r_iload2 (pc := 43) C dX6_middle_43 ?_
          exact r_iret C rfl dX6_middle_44 (⟨by unfold mid3 mxI mnI; grind, rfl⟩) (by decide) (by decide)
        · refine r_iload4 (pc := 38) C dX6_middle_38 ?_
          refine r_goto (pc := 40) C (tgt := 44) dX6_middle_40 (by decide) ?_
          exact r_iret C rfl dX6_middle_44 (⟨by unfold mid3 mxI mnI; grind, rfl⟩) (by decide) (by decide)
      · refine r_iload3 (pc := 28) C dX6_middle_28 ?_
        refine r_goto (pc := 29) C (tgt := 44) dX6_middle_29 (by decide) ?_
        exact r_iret C rfl dX6_middle_44 (⟨by unfold mid3 mxI mnI; grind, rfl⟩) (by decide) (by decide)
    · refine r_iload1 (pc := 16) C dX6_middle_16 ?_
      refine r_goto (pc := 17) C (tgt := 21) dX6_middle_17 (by decide) ?_
      refine r_istore4 (pc := 21) C dX6_middle_21 ?_
      refine r_iload2 (pc := 23) C dX6_middle_23 ?_
      refine r_iload3 (pc := 24) C dX6_middle_24 ?_
      refine r_icmp_ge (pc := 25) C (tgt := 32) dX6_middle_25 (by decide) (fun c_25 => ?_) (fun c_25 => ?_)
      · refine r_iload2 (pc := 32) C dX6_middle_32 ?_
        refine r_iload4 (pc := 33) C dX6_middle_33 ?_
        refine r_icmp_le (pc := 35) C (tgt := 43) dX6_middle_35 (by decide) (fun c_35 => ?_) (fun c_35 => ?_)
        · refine r_iload2 (pc := 43) C dX6_middle_43 ?_
          exact r_iret C rfl dX6_middle_44 (⟨by unfold mid3 mxI mnI; grind, rfl⟩) (by decide) (by decide)
        · refine r_iload4 (pc := 38) C dX6_middle_38 ?_
          refine r_goto (pc := 40) C (tgt := 44) dX6_middle_40 (by decide) ?_
          exact r_iret C rfl dX6_middle_44 (⟨by unfold mid3 mxI mnI; grind, rfl⟩) (by decide) (by decide)
      · refine r_iload3 (pc := 28) C dX6_middle_28 ?_
        refine r_goto (pc := 29) C (tgt := 44) dX6_middle_29 (by decide) ?_
        exact r_iret C rfl dX6_middle_44 (⟨by unfold mid3 mxI mnI; grind, rfl⟩) (by decide) (by decide)
  · refine r_iload0 (pc := 5) C dX6_middle_5 ?_
    refine r_goto (pc := 6) C (tgt := 10) dX6_middle_6 (by decide) ?_
    refine r_istore3 (pc := 10) C dX6_middle_10 ?_
    refine r_iload0 (pc := 11) C dX6_middle_11 ?_
    refine r_iload1 (pc := 12) C dX6_middle_12 ?_
    refine r_icmp_ge (pc := 13) C (tgt := 20) dX6_middle_13 (by decide) (fun c_13 => ?_) (fun c_13 => ?_)
    · refine r_iload0 (pc := 20) C dX6_middle_20 ?_
      refine r_istore4 (pc := 21) C dX6_middle_21 ?_
      refine r_iload2 (pc := 23) C dX6_middle_23 ?_
      refine r_iload3 (pc := 24) C dX6_middle_24 ?_
      refine r_icmp_ge (pc := 25) C (tgt := 32) dX6_middle_25 (by decide) (fun c_25 => ?_) (fun c_25 => ?_)
      · refine r_iload2 (pc := 32) C dX6_middle_32 ?_
        refine r_iload4 (pc := 33) C dX6_middle_33 ?_
        refine r_icmp_le (pc := 35) C (tgt := 43) dX6_middle_35 (by decide) (fun c_35 => ?_) (fun c_35 => ?_)
        · refine r_iload2 (pc := 43) C dX6_middle_43 ?_
          exact r_iret C rfl dX6_middle_44 (⟨by unfold mid3 mxI mnI; grind, rfl⟩) (by decide) (by decide)
        · refine r_iload4 (pc := 38) C dX6_middle_38 ?_
          refine r_goto (pc := 40) C (tgt := 44) dX6_middle_40 (by decide) ?_
          exact r_iret C rfl dX6_middle_44 (⟨by unfold mid3 mxI mnI; grind, rfl⟩) (by decide) (by decide)
      · refine r_iload3 (pc := 28) C dX6_middle_28 ?_
        refine r_goto (pc := 29) C (tgt := 44) dX6_middle_29 (by decide) ?_
        exact r_iret C rfl dX6_middle_44 (⟨by unfold mid3 mxI mnI; grind, rfl⟩) (by decide) (by decide)
    · refine r_iload1 (pc := 16) C dX6_middle_16 ?_
      refine r_goto (pc := 17) C (tgt := 21) dX6_middle_17 (by decide) ?_
      refine r_istore4 (pc := 21) C dX6_middle_21 ?_
      refine r_iload2 (pc := 23) C dX6_middle_23 ?_
      refine r_iload3 (pc := 24) C dX6_middle_24 ?_
      refine r_icmp_ge (pc := 25) C (tgt := 32) dX6_middle_25 (by decide) (fun c_25 => ?_) (fun c_25 => ?_)
      · refine r_iload2 (pc := 32) C dX6_middle_32 ?_
        refine r_iload4 (pc := 33) C dX6_middle_33 ?_
        refine r_icmp_le (pc := 35) C (tgt := 43) dX6_middle_35 (by decide) (fun c_35 => ?_) (fun c_35 => ?_)
        · refine r_iload2 (pc := 43) C dX6_middle_43 ?_
          exact r_iret C rfl dX6_middle_44 (⟨by unfold mid3 mxI mnI; grind, rfl⟩) (by decide) (by decide)
        · refine r_iload4 (pc := 38) C dX6_middle_38 ?_
          refine r_goto (pc := 40) C (tgt := 44) dX6_middle_40 (by decide) ?_
          exact r_iret C rfl dX6_middle_44 (⟨by unfold mid3 mxI mnI; grind, rfl⟩) (by decide) (by decide)
      · refine r_iload3 (pc := 28) C dX6_middle_28 ?_
        refine r_goto (pc := 29) C (tgt := 44) dX6_middle_29 (by decide) ?_
        exact r_iret C rfl dX6_middle_44 (⟨by unfold mid3 mxI mnI; grind, rfl⟩) (by decide) (by decide)

set_option maxRecDepth 100000 in
set_option maxHeartbeats 4000000 in
theorem c_X6_qualityOf (l : Launch) (D : Gt) (T : List Nat) (ad : Nat → Nat) (σ : Mm) {nr ng : Nat} (hT : TG nr ng T) {s0 : Nat} (hs : s0 < 40) : KI D l yX6_qualityOf (uws yX6_qualityOf cX6_qualityOf 4 (some .int)) (RM 2 0 0) [.ref (ad 400), .int (nI s0)] (T, ad, cO D ad σ) (fun r S1 => r = qualM σ s0 ∧ S1 = (T, ad, cO D ad σ)) (nX) 0 0 := by
  refine KI_of (own := RX6) (L0 := [some (.ref (ad 400)), some (.int (nI s0)), none, none]) (by decide +kernel) rfl (catc rfl (catc rfl cat0)) (Nat.le_of_ble_eq_true rfl) rfl ?_
  intro p e s m args below meth c A hnm C
  refine r_aload0 (pc := 0) C dX6_qualityOf_0 ?_
  refine gX6_43 (pc := 1) C hT dX6_qualityOf_1 ?_
  refine r_iconst (pc := 4) C (v := 3) dX6_qualityOf_4 (by decide) ?_
  refine r_iload1 (pc := 5) C dX6_qualityOf_5 ?_
  refine r_imul (pc := 6) C dX6_qualityOf_6 ?_
  refine a414 (pc := 7) C hT (ix3 s0) (by omega) dX6_qualityOf_7 ?_
  refine r_istore2 (pc := 8) C dX6_qualityOf_8 ?_
  refine r_aload0 (pc := 9) C dX6_qualityOf_9 ?_
  refine gX6_43 (pc := 10) C hT dX6_qualityOf_10 ?_
  refine r_iconst (pc := 13) C (v := 3) dX6_qualityOf_13 (by decide) ?_
  refine r_iload1 (pc := 14) C dX6_qualityOf_14 ?_
  refine r_imul (pc := 15) C dX6_qualityOf_15 ?_
  refine r_iconst (pc := 16) C (v := 1) dX6_qualityOf_16 (by decide) ?_
  refine r_iadd (pc := 17) C dX6_qualityOf_17 ?_
  refine a414 (pc := 18) C hT (ix31 s0) (by omega) dX6_qualityOf_18 ?_
  refine r_istore3 (pc := 19) C dX6_qualityOf_19 ?_
  refine r_aload0 (pc := 20) C dX6_qualityOf_20 ?_
  refine gX6_40 (pc := 21) C hT dX6_qualityOf_21 ?_
  refine r_iload1 (pc := 24) C dX6_qualityOf_24 ?_
  refine a413 (pc := 25) C hT rfl (by omega) dX6_qualityOf_25 ?_
  refine r_if_ne (pc := 26) C (tgt := 33) dX6_qualityOf_26 (by decide) (fun c_26 => ?_) (fun c_26 => ?_)
  · refine r_aload0 (pc := 33) C dX6_qualityOf_33 ?_
    refine gX6_40 (pc := 34) C hT dX6_qualityOf_34 ?_
    refine r_iload1 (pc := 37) C dX6_qualityOf_37 ?_
    refine a413 (pc := 38) C hT rfl (by omega) dX6_qualityOf_38 ?_
    refine r_iconst (pc := 39) C (v := 1) dX6_qualityOf_39 (by decide) ?_
    refine r_icmp_ne (pc := 40) C (tgt := 47) dX6_qualityOf_40 (by decide) (fun c_40 => ?_) (fun c_40 => ?_)
    · refine r_aload0 (pc := 47) C dX6_qualityOf_47 ?_
      refine gX6_40 (pc := 48) C hT dX6_qualityOf_48 ?_
      refine r_iload1 (pc := 51) C dX6_qualityOf_51 ?_
      refine a413 (pc := 52) C hT rfl (by omega) dX6_qualityOf_52 ?_
      refine r_iconst (pc := 53) C (v := 2) dX6_qualityOf_53 (by decide) ?_
      refine r_icmp_ne (pc := 54) C (tgt := 70) dX6_qualityOf_54 (by decide) (fun c_54 => ?_) (fun c_54 => ?_)
      · refine r_iload2 (pc := 70) C dX6_qualityOf_70 ?_
        refine r_iload3 (pc := 71) C dX6_qualityOf_71 ?_
        refine r_aload0 (pc := 72) C dX6_qualityOf_72 ?_
        refine gX6_43 (pc := 73) C hT dX6_qualityOf_73 ?_
        refine r_iconst (pc := 76) C (v := 3) dX6_qualityOf_76 (by decide) ?_
        refine r_iload1 (pc := 77) C dX6_qualityOf_77 ?_
        refine r_imul (pc := 78) C dX6_qualityOf_78 ?_
        refine r_iconst (pc := 79) C (v := 2) dX6_qualityOf_79 (by decide) ?_
        refine r_iadd (pc := 80) C dX6_qualityOf_80 ?_
        refine a414 (pc := 81) C hT (ix32 s0) (by omega) dX6_qualityOf_81 ?_
        refine kX6_139 (pc := 82) C (c_X6_middle l D _ _ _ _) dX6_qualityOf_82 (Nat.le_of_ble_eq_true rfl) (by decide) ?_
        rintro _ _ ⟨rfl, rfl⟩
        exact r_iret C rfl dX6_qualityOf_85 (⟨by unfold qualM qualS; first | exact (iF_t (by assumption)).symm | (rw [iF_f (by assumption)]; first | exact (iF_t (by assumption)).symm | (rw [iF_f (by assumption)]; first | (rw [iF_t (by assumption)]; unfold mxI; grind) | (rw [iF_f (by assumption)]))), rfl⟩) (by decide) (by decide)
      · refine r_iload2 (pc := 57) C dX6_qualityOf_57 ?_
        refine r_iload3 (pc := 58) C dX6_qualityOf_58 ?_
        refine r_icmp_le (pc := 59) C (tgt := 66) dX6_qualityOf_59 (by decide) (fun c_59 => ?_) (fun c_59 => ?_)
        · refine r_iload3 (pc := 66) C dX6_qualityOf_66 ?_
          refine r_goto (pc := 67) C (tgt := 85) dX6_qualityOf_67 (by decide) ?_
          exact r_iret C rfl dX6_qualityOf_85 (⟨by unfold qualM qualS; first | exact (iF_t (by assumption)).symm | (rw [iF_f (by assumption)]; first | exact (iF_t (by assumption)).symm | (rw [iF_f (by assumption)]; first | (rw [iF_t (by assumption)]; unfold mxI; grind) | (rw [iF_f (by assumption)]))), rfl⟩) (by decide) (by decide)
        · refine r_iload2 (pc := 62) C dX6_qualityOf_62 ?_
          refine r_goto (pc := 63) C (tgt := 85) dX6_qualityOf_63 (by decide) ?_
          exact r_iret C rfl dX6_qualityOf_85 (⟨by unfold qualM qualS; first | exact (iF_t (by assumption)).symm | (rw [iF_f (by assumption)]; first | exact (iF_t (by assumption)).symm | (rw [iF_f (by assumption)]; first | (rw [iF_t (by assumption)]; unfold mxI; grind) | (rw [iF_f (by assumption)]))), rfl⟩) (by decide) (by decide)
    · refine r_iload2 (pc := 43) C dX6_qualityOf_43 ?_
      refine r_goto (pc := 44) C (tgt := 85) dX6_qualityOf_44 (by decide) ?_
      exact r_iret C rfl dX6_qualityOf_85 (⟨by unfold qualM qualS; first | exact (iF_t (by assumption)).symm | (rw [iF_f (by assumption)]; first | exact (iF_t (by assumption)).symm | (rw [iF_f (by assumption)]; first | (rw [iF_t (by assumption)]; unfold mxI; grind) | (rw [iF_f (by assumption)]))), rfl⟩) (by decide) (by decide)
  · refine r_iconst (pc := 29) C (v := (-1)) dX6_qualityOf_29 (by decide) ?_
    refine r_goto (pc := 30) C (tgt := 85) dX6_qualityOf_30 (by decide) ?_
    exact r_iret C rfl dX6_qualityOf_85 (⟨by unfold qualM qualS; first | exact (iF_t (by assumption)).symm | (rw [iF_f (by assumption)]; first | exact (iF_t (by assumption)).symm | (rw [iF_f (by assumption)]; first | (rw [iF_t (by assumption)]; unfold mxI; grind) | (rw [iF_f (by assumption)]))), rfl⟩) (by decide) (by decide)

set_option maxRecDepth 100000 in
set_option maxHeartbeats 4000000 in
theorem c_X6_isDoubtful (l : Launch) (D : Gt) (T : List Nat) (ad : Nat → Nat) (σ : Mm) {nr ng : Nat} (hT : TG nr ng T) {s0 : Nat} (hs : s0 < 40) (hb : ∀ j, bd18 (σ 74 j)) : KI D l yX6_isDoubtful (uws yX6_isDoubtful cX6_isDoubtful 3 (some .boolean)) (RM 1 0 0) [.ref (ad 400), .int (nI s0)] (T, ad, cO D ad σ) (fun r S1 => r = bI (dblM σ s0) ∧ S1 = (T, ad, cO D ad σ)) (nX) 0 0 := by
  refine KI_of (own := RX6) (L0 := [some (.ref (ad 400)), some (.int (nI s0)), none]) (by decide +kernel) rfl (catc rfl (catc rfl cat0)) (Nat.le_of_ble_eq_true rfl) rfl ?_
  intro p e s m args below meth c A hnm C
  refine r_aload0 (pc := 0) C dX6_isDoubtful_0 ?_
  refine gX6_43 (pc := 1) C hT dX6_isDoubtful_1 ?_
  refine r_iconst (pc := 4) C (v := 3) dX6_isDoubtful_4 (by decide) ?_
  refine r_iload1 (pc := 5) C dX6_isDoubtful_5 ?_
  refine r_imul (pc := 6) C dX6_isDoubtful_6 ?_
  refine a414 (pc := 7) C hT (ix3 s0) (by omega) dX6_isDoubtful_7 ?_
  refine r_aload0 (pc := 8) C dX6_isDoubtful_8 ?_
  refine gX6_43 (pc := 9) C hT dX6_isDoubtful_9 ?_
  refine r_iconst (pc := 12) C (v := 3) dX6_isDoubtful_12 (by decide) ?_
  refine r_iload1 (pc := 13) C dX6_isDoubtful_13 ?_
  refine r_imul (pc := 14) C dX6_isDoubtful_14 ?_
  refine r_iconst (pc := 15) C (v := 1) dX6_isDoubtful_15 (by decide) ?_
  refine r_iadd (pc := 16) C dX6_isDoubtful_16 ?_
  refine a414 (pc := 17) C hT (ix31 s0) (by omega) dX6_isDoubtful_17 ?_
  refine r_isub (pc := 18) C dX6_isDoubtful_18 ?_
  refine r_istore2 (pc := 19) C dX6_isDoubtful_19 ?_
  refine r_aload0 (pc := 20) C dX6_isDoubtful_20 ?_
  refine gX6_40 (pc := 21) C hT dX6_isDoubtful_21 ?_
  refine r_iload1 (pc := 24) C dX6_isDoubtful_24 ?_
  refine a413 (pc := 25) C hT rfl (by omega) dX6_isDoubtful_25 ?_
  refine r_iconst (pc := 26) C (v := 2) dX6_isDoubtful_26 (by decide) ?_
  refine r_icmp_ne (pc := 27) C (tgt := 45) dX6_isDoubtful_27 (by decide) (fun c_27 => ?_) (fun c_27 => ?_)
  · refine r_iconst (pc := 45) C (v := 0) dX6_isDoubtful_45 (by decide) ?_
    exact r_zret C rfl rfl dX6_isDoubtful_46 (by first | exact ⟨(bI_t ⟨by assumption, (abs_2 (hb _) (hb _)).mpr (by grind)⟩).symm, rfl⟩ | exact ⟨(bI_f (fun h => by have h2 := (abs_2 (hb _) (hb _)).mp h.2; have h3 := h.1; grind)).symm, rfl⟩) (by decide) (by decide)
  · refine r_iload2 (pc := 30) C dX6_isDoubtful_30 ?_
    refine r_iconst (pc := 31) C (v := 2) dX6_isDoubtful_31 (by decide) ?_
    refine r_icmp_ge (pc := 32) C (tgt := 41) dX6_isDoubtful_32 (by decide) (fun c_32 => ?_) (fun c_32 => ?_)
    · refine r_iconst (pc := 41) C (v := 1) dX6_isDoubtful_41 (by decide) ?_
      refine r_goto (pc := 42) C (tgt := 46) dX6_isDoubtful_42 (by decide) ?_
      exact r_zret C rfl rfl dX6_isDoubtful_46 (by first | exact ⟨(bI_t ⟨by assumption, (abs_2 (hb _) (hb _)).mpr (by grind)⟩).symm, rfl⟩ | exact ⟨(bI_f (fun h => by have h2 := (abs_2 (hb _) (hb _)).mp h.2; have h3 := h.1; grind)).symm, rfl⟩) (by decide) (by decide)
    · refine r_iload2 (pc := 35) C dX6_isDoubtful_35 ?_
      refine r_bipush (pc := 36) C (v := (-2)) dX6_isDoubtful_36 (by decide) ?_
      refine r_icmp_gt (pc := 38) C (tgt := 45) dX6_isDoubtful_38 (by decide) (fun c_38 => ?_) (fun c_38 => ?_)
      · refine r_iconst (pc := 45) C (v := 0) dX6_isDoubtful_45 (by decide) ?_
        exact r_zret C rfl rfl dX6_isDoubtful_46 (by first | exact ⟨(bI_t ⟨by assumption, (abs_2 (hb _) (hb _)).mpr (by grind)⟩).symm, rfl⟩ | exact ⟨(bI_f (fun h => by have h2 := (abs_2 (hb _) (hb _)).mp h.2; have h3 := h.1; grind)).symm, rfl⟩) (by decide) (by decide)
      · refine r_iconst (pc := 41) C (v := 1) dX6_isDoubtful_41 (by decide) ?_
        refine r_goto (pc := 42) C (tgt := 46) dX6_isDoubtful_42 (by decide) ?_
        exact r_zret C rfl rfl dX6_isDoubtful_46 (by first | exact ⟨(bI_t ⟨by assumption, (abs_2 (hb _) (hb _)).mpr (by grind)⟩).symm, rfl⟩ | exact ⟨(bI_f (fun h => by have h2 := (abs_2 (hb _) (hb _)).mp h.2; have h3 := h.1; grind)).symm, rfl⟩) (by decide) (by decide)

set_option maxRecDepth 100000 in
set_option maxHeartbeats 4000000 in
theorem c_X6_valueOf (l : Launch) (D : Gt) (T : List Nat) (ad : Nat → Nat) (σ : Mm) {nr ng : Nat} (hT : TG nr ng T) {s0 : Nat} (hs : s0 < 40) (hb : ∀ j, bd18 (σ 74 j)) : KI D l yX6_valueOf (uws yX6_valueOf cX6_valueOf 3 (some .int)) (RM 3 0 0) [.ref (ad 400), .int (nI s0)] (T, ad, cO D ad σ) (fun r S1 => r = valM σ s0 ∧ S1 = (T, ad, cO D ad σ)) (nX) 0 0 := by
  refine KI_of (own := RX6) (L0 := [some (.ref (ad 400)), some (.int (nI s0)), none]) (by decide +kernel) rfl (catc rfl (catc rfl cat0)) (Nat.le_of_ble_eq_true rfl) rfl ?_
  intro p e s m args below meth c A hnm C
  refine r_aload0 (pc := 0) C dX6_valueOf_0 ?_
  refine gX6_16 (pc := 1) C hT dX6_valueOf_1 ?_
  refine r_iload1 (pc := 4) C dX6_valueOf_4 ?_
  refine a405 (pc := 5) C hT rfl (by omega) dX6_valueOf_5 ?_
  refine r_bipush (pc := 6) C (v := 100) dX6_valueOf_6 (by decide) ?_
  refine r_icmp_ge (pc := 8) C (tgt := 15) dX6_valueOf_8 (by decide) (fun c_8 => ?_) (fun c_8 => ?_)
  · refine r_aload0 (pc := 15) C dX6_valueOf_15 ?_
    refine gX6_16 (pc := 16) C hT dX6_valueOf_16 ?_
    refine r_iload1 (pc := 19) C dX6_valueOf_19 ?_
    refine a405 (pc := 20) C hT rfl (by omega) dX6_valueOf_20 ?_
    refine r_sipush (pc := 21) C (v := 300) dX6_valueOf_21 (by decide) ?_
    refine r_icmp_ge (pc := 24) C (tgt := 31) dX6_valueOf_24 (by decide) (fun c_24 => ?_) (fun c_24 => ?_)
    · refine r_aload0 (pc := 31) C dX6_valueOf_31 ?_
      refine gX6_16 (pc := 32) C hT dX6_valueOf_32 ?_
      refine r_iload1 (pc := 35) C dX6_valueOf_35 ?_
      refine a405 (pc := 36) C hT rfl (by omega) dX6_valueOf_36 ?_
      refine r_sipush (pc := 37) C (v := 1000) dX6_valueOf_37 (by decide) ?_
      refine r_icmp_ge (pc := 40) C (tgt := 47) dX6_valueOf_40 (by decide) (fun c_40 => ?_) (fun c_40 => ?_)
      · refine r_iconst (pc := 47) C (v := nI (szN (σ 65 s0))) dX6_valueOf_47 (Eq.trans (b := (3 : Int32)) (by decide) (by unfold szN iF; (repeat' split) <;> first | rfl | (exfalso; grind))) ?_
        refine r_istore2 (pc := 48) C dX6_valueOf_48 ?_
        refine r_aload0 (pc := 49) C dX6_valueOf_49 ?_
        refine gX6_40 (pc := 50) C hT dX6_valueOf_50 ?_
        refine r_iload1 (pc := 53) C dX6_valueOf_53 ?_
        refine a413 (pc := 54) C hT rfl (by omega) dX6_valueOf_54 ?_
        refine r_if_ne (pc := 55) C (tgt := 62) dX6_valueOf_55 (by decide) (fun c_55 => ?_) (fun c_55 => ?_)
        · refine r_aload0 (pc := 62) C dX6_valueOf_62 ?_
          refine gX6_16 (pc := 63) C hT dX6_valueOf_63 ?_
          refine r_iload1 (pc := 66) C dX6_valueOf_66 ?_
          refine a405 (pc := 67) C hT rfl (by omega) dX6_valueOf_67 ?_
          refine r_aload0 (pc := 68) C dX6_valueOf_68 ?_
          refine gX6_52 (pc := 69) C hT dX6_valueOf_69 ?_
          refine r_bipush (pc := 72) C (v := 19) dX6_valueOf_72 (by decide) ?_
          refine r_iload2 (pc := 74) C dX6_valueOf_74 ?_
          refine r_imul (pc := 75) C dX6_valueOf_75 ?_
          refine r_aload0 (pc := 76) C dX6_valueOf_76 ?_
          refine r_iload1 (pc := 77) C dX6_valueOf_77 ?_
          refine kX6_144 (pc := 78) C (c_X6_qualityOf l D _ _ _ hT hs) (hT.f (by decide)) rfl dX6_valueOf_78 (Nat.le_of_ble_eq_true rfl) (by decide) ?_
          rintro _ _ ⟨rfl, rfl⟩
          obtain ⟨b, hb19, hq⟩ := bd_ix (qual_bd (n := σ 73 s0) (hb (3 * s0)) (hb (3 * s0 + 1)) (hb (3 * s0 + 2)) (by assumption))
          have hq2 : qualM σ s0 = nI b := hq
          rw [hq2]
          refine r_iadd (pc := 81) C dX6_valueOf_81 ?_
          refine a417 (pc := 82) C hT (show (19 : Int32) * nI (szN (σ 65 s0)) + nI b = nI (19 * szN (σ 65 s0) + b) by rw [show (19 : Int32) * nI (szN (σ 65 s0)) = nI (19 * szN (σ 65 s0)) from pk_mul 19 _]; exact nI_add _ b) (by have := szN_lt (σ 65 s0); omega) dX6_valueOf_82 ?_
          refine r_imul (pc := 83) C dX6_valueOf_83 ?_
          refine r_bipush (pc := 84) C (v := 100) dX6_valueOf_84 (by decide) ?_
          refine r_idiv (pc := 86) C dX6_valueOf_86 (by decide) ?_
          exact r_iret C rfl dX6_valueOf_87 (by first | exact ⟨(iF_t (qual_0 (by assumption))).symm, rfl⟩ | exact ⟨by unfold valM valS; rw [iF_f (by rw [hq2]; exact nI_nem1 (by omega)), hq2, nI_clamp (by omega)], rfl⟩) (by decide) (by decide)
        · refine r_iconst (pc := 58) C (v := (-1)) dX6_valueOf_58 (by decide) ?_
          refine r_goto (pc := 59) C (tgt := 87) dX6_valueOf_59 (by decide) ?_
          exact r_iret C rfl dX6_valueOf_87 (by first | exact ⟨(iF_t (qual_0 (by assumption))).symm, rfl⟩ | exact ⟨by unfold valM valS; rw [iF_f (by rw [hq2]; exact nI_nem1 (by omega)), hq2, nI_clamp (by omega)], rfl⟩) (by decide) (by decide)
      · refine r_iconst (pc := 43) C (v := nI (szN (σ 65 s0))) dX6_valueOf_43 (Eq.trans (b := (2 : Int32)) (by decide) (by unfold szN iF; (repeat' split) <;> first | rfl | (exfalso; grind))) ?_
        refine r_goto (pc := 44) C (tgt := 48) dX6_valueOf_44 (by decide) ?_
        refine r_istore2 (pc := 48) C dX6_valueOf_48 ?_
        refine r_aload0 (pc := 49) C dX6_valueOf_49 ?_
        refine gX6_40 (pc := 50) C hT dX6_valueOf_50 ?_
        refine r_iload1 (pc := 53) C dX6_valueOf_53 ?_
        refine a413 (pc := 54) C hT rfl (by omega) dX6_valueOf_54 ?_
        refine r_if_ne (pc := 55) C (tgt := 62) dX6_valueOf_55 (by decide) (fun c_55 => ?_) (fun c_55 => ?_)
        · refine r_aload0 (pc := 62) C dX6_valueOf_62 ?_
          refine gX6_16 (pc := 63) C hT dX6_valueOf_63 ?_
          refine r_iload1 (pc := 66) C dX6_valueOf_66 ?_
          refine a405 (pc := 67) C hT rfl (by omega) dX6_valueOf_67 ?_
          refine r_aload0 (pc := 68) C dX6_valueOf_68 ?_
          refine gX6_52 (pc := 69) C hT dX6_valueOf_69 ?_
          refine r_bipush (pc := 72) C (v := 19) dX6_valueOf_72 (by decide) ?_
          refine r_iload2 (pc := 74) C dX6_valueOf_74 ?_
          refine r_imul (pc := 75) C dX6_valueOf_75 ?_
          refine r_aload0 (pc := 76) C dX6_valueOf_76 ?_
          refine r_iload1 (pc := 77) C dX6_valueOf_77 ?_
          refine kX6_144 (pc := 78) C (c_X6_qualityOf l D _ _ _ hT hs) (hT.f (by decide)) rfl dX6_valueOf_78 (Nat.le_of_ble_eq_true rfl) (by decide) ?_
          rintro _ _ ⟨rfl, rfl⟩
          obtain ⟨b, hb19, hq⟩ := bd_ix (qual_bd (n := σ 73 s0) (hb (3 * s0)) (hb (3 * s0 + 1)) (hb (3 * s0 + 2)) (by assumption))
          have hq2 : qualM σ s0 = nI b := hq
          rw [hq2]
          refine r_iadd (pc := 81) C dX6_valueOf_81 ?_
          refine a417 (pc := 82) C hT (show (19 : Int32) * nI (szN (σ 65 s0)) + nI b = nI (19 * szN (σ 65 s0) + b) by rw [show (19 : Int32) * nI (szN (σ 65 s0)) = nI (19 * szN (σ 65 s0)) from pk_mul 19 _]; exact nI_add _ b) (by have := szN_lt (σ 65 s0); omega) dX6_valueOf_82 ?_
          refine r_imul (pc := 83) C dX6_valueOf_83 ?_
          refine r_bipush (pc := 84) C (v := 100) dX6_valueOf_84 (by decide) ?_
          refine r_idiv (pc := 86) C dX6_valueOf_86 (by decide) ?_
          exact r_iret C rfl dX6_valueOf_87 (by first | exact ⟨(iF_t (qual_0 (by assumption))).symm, rfl⟩ | exact ⟨by unfold valM valS; rw [iF_f (by rw [hq2]; exact nI_nem1 (by omega)), hq2, nI_clamp (by omega)], rfl⟩) (by decide) (by decide)
        · refine r_iconst (pc := 58) C (v := (-1)) dX6_valueOf_58 (by decide) ?_
          refine r_goto (pc := 59) C (tgt := 87) dX6_valueOf_59 (by decide) ?_
          exact r_iret C rfl dX6_valueOf_87 (by first | exact ⟨(iF_t (qual_0 (by assumption))).symm, rfl⟩ | exact ⟨by unfold valM valS; rw [iF_f (by rw [hq2]; exact nI_nem1 (by omega)), hq2, nI_clamp (by omega)], rfl⟩) (by decide) (by decide)
    · refine r_iconst (pc := 27) C (v := nI (szN (σ 65 s0))) dX6_valueOf_27 (Eq.trans (b := (1 : Int32)) (by decide) (by unfold szN iF; (repeat' split) <;> first | rfl | (exfalso; grind))) ?_
      refine r_goto (pc := 28) C (tgt := 48) dX6_valueOf_28 (by decide) ?_
      refine r_istore2 (pc := 48) C dX6_valueOf_48 ?_
      refine r_aload0 (pc := 49) C dX6_valueOf_49 ?_
      refine gX6_40 (pc := 50) C hT dX6_valueOf_50 ?_
      refine r_iload1 (pc := 53) C dX6_valueOf_53 ?_
      refine a413 (pc := 54) C hT rfl (by omega) dX6_valueOf_54 ?_
      refine r_if_ne (pc := 55) C (tgt := 62) dX6_valueOf_55 (by decide) (fun c_55 => ?_) (fun c_55 => ?_)
      · refine r_aload0 (pc := 62) C dX6_valueOf_62 ?_
        refine gX6_16 (pc := 63) C hT dX6_valueOf_63 ?_
        refine r_iload1 (pc := 66) C dX6_valueOf_66 ?_
        refine a405 (pc := 67) C hT rfl (by omega) dX6_valueOf_67 ?_
        refine r_aload0 (pc := 68) C dX6_valueOf_68 ?_
        refine gX6_52 (pc := 69) C hT dX6_valueOf_69 ?_
        refine r_bipush (pc := 72) C (v := 19) dX6_valueOf_72 (by decide) ?_
        refine r_iload2 (pc := 74) C dX6_valueOf_74 ?_
        refine r_imul (pc := 75) C dX6_valueOf_75 ?_
        refine r_aload0 (pc := 76) C dX6_valueOf_76 ?_
        refine r_iload1 (pc := 77) C dX6_valueOf_77 ?_
        refine kX6_144 (pc := 78) C (c_X6_qualityOf l D _ _ _ hT hs) (hT.f (by decide)) rfl dX6_valueOf_78 (Nat.le_of_ble_eq_true rfl) (by decide) ?_
        rintro _ _ ⟨rfl, rfl⟩
        obtain ⟨b, hb19, hq⟩ := bd_ix (qual_bd (n := σ 73 s0) (hb (3 * s0)) (hb (3 * s0 + 1)) (hb (3 * s0 + 2)) (by assumption))
        have hq2 : qualM σ s0 = nI b := hq
        rw [hq2]
        refine r_iadd (pc := 81) C dX6_valueOf_81 ?_
        refine a417 (pc := 82) C hT (show (19 : Int32) * nI (szN (σ 65 s0)) + nI b = nI (19 * szN (σ 65 s0) + b) by rw [show (19 : Int32) * nI (szN (σ 65 s0)) = nI (19 * szN (σ 65 s0)) from pk_mul 19 _]; exact nI_add _ b) (by have := szN_lt (σ 65 s0); omega) dX6_valueOf_82 ?_
        refine r_imul (pc := 83) C dX6_valueOf_83 ?_
        refine r_bipush (pc := 84) C (v := 100) dX6_valueOf_84 (by decide) ?_
        refine r_idiv (pc := 86) C dX6_valueOf_86 (by decide) ?_
        exact r_iret C rfl dX6_valueOf_87 (by first | exact ⟨(iF_t (qual_0 (by assumption))).symm, rfl⟩ | exact ⟨by unfold valM valS; rw [iF_f (by rw [hq2]; exact nI_nem1 (by omega)), hq2, nI_clamp (by omega)], rfl⟩) (by decide) (by decide)
      · refine r_iconst (pc := 58) C (v := (-1)) dX6_valueOf_58 (by decide) ?_
        refine r_goto (pc := 59) C (tgt := 87) dX6_valueOf_59 (by decide) ?_
        exact r_iret C rfl dX6_valueOf_87 (by first | exact ⟨(iF_t (qual_0 (by assumption))).symm, rfl⟩ | exact ⟨by unfold valM valS; rw [iF_f (by rw [hq2]; exact nI_nem1 (by omega)), hq2, nI_clamp (by omega)], rfl⟩) (by decide) (by decide)
  · refine r_iconst (pc := 11) C (v := nI (szN (σ 65 s0))) dX6_valueOf_11 (Eq.trans (b := (0 : Int32)) (by decide) (by unfold szN iF; (repeat' split) <;> first | rfl | (exfalso; grind))) ?_
    refine r_goto (pc := 12) C (tgt := 48) dX6_valueOf_12 (by decide) ?_
    refine r_istore2 (pc := 48) C dX6_valueOf_48 ?_
    refine r_aload0 (pc := 49) C dX6_valueOf_49 ?_
    refine gX6_40 (pc := 50) C hT dX6_valueOf_50 ?_
    refine r_iload1 (pc := 53) C dX6_valueOf_53 ?_
    refine a413 (pc := 54) C hT rfl (by omega) dX6_valueOf_54 ?_
    refine r_if_ne (pc := 55) C (tgt := 62) dX6_valueOf_55 (by decide) (fun c_55 => ?_) (fun c_55 => ?_)
    · refine r_aload0 (pc := 62) C dX6_valueOf_62 ?_
      refine gX6_16 (pc := 63) C hT dX6_valueOf_63 ?_
      refine r_iload1 (pc := 66) C dX6_valueOf_66 ?_
      refine a405 (pc := 67) C hT rfl (by omega) dX6_valueOf_67 ?_
      refine r_aload0 (pc := 68) C dX6_valueOf_68 ?_
      refine gX6_52 (pc := 69) C hT dX6_valueOf_69 ?_
      refine r_bipush (pc := 72) C (v := 19) dX6_valueOf_72 (by decide) ?_
      refine r_iload2 (pc := 74) C dX6_valueOf_74 ?_
      refine r_imul (pc := 75) C dX6_valueOf_75 ?_
      refine r_aload0 (pc := 76) C dX6_valueOf_76 ?_
      refine r_iload1 (pc := 77) C dX6_valueOf_77 ?_
      refine kX6_144 (pc := 78) C (c_X6_qualityOf l D _ _ _ hT hs) (hT.f (by decide)) rfl dX6_valueOf_78 (Nat.le_of_ble_eq_true rfl) (by decide) ?_
      rintro _ _ ⟨rfl, rfl⟩
      obtain ⟨b, hb19, hq⟩ := bd_ix (qual_bd (n := σ 73 s0) (hb (3 * s0)) (hb (3 * s0 + 1)) (hb (3 * s0 + 2)) (by assumption))
      have hq2 : qualM σ s0 = nI b := hq
      rw [hq2]
      refine r_iadd (pc := 81) C dX6_valueOf_81 ?_
      refine a417 (pc := 82) C hT (show (19 : Int32) * nI (szN (σ 65 s0)) + nI b = nI (19 * szN (σ 65 s0) + b) by rw [show (19 : Int32) * nI (szN (σ 65 s0)) = nI (19 * szN (σ 65 s0)) from pk_mul 19 _]; exact nI_add _ b) (by have := szN_lt (σ 65 s0); omega) dX6_valueOf_82 ?_
      refine r_imul (pc := 83) C dX6_valueOf_83 ?_
      refine r_bipush (pc := 84) C (v := 100) dX6_valueOf_84 (by decide) ?_
      refine r_idiv (pc := 86) C dX6_valueOf_86 (by decide) ?_
      exact r_iret C rfl dX6_valueOf_87 (by first | exact ⟨(iF_t (qual_0 (by assumption))).symm, rfl⟩ | exact ⟨by unfold valM valS; rw [iF_f (by rw [hq2]; exact nI_nem1 (by omega)), hq2, nI_clamp (by omega)], rfl⟩) (by decide) (by decide)
    · refine r_iconst (pc := 58) C (v := (-1)) dX6_valueOf_58 (by decide) ?_
      refine r_goto (pc := 59) C (tgt := 87) dX6_valueOf_59 (by decide) ?_
      exact r_iret C rfl dX6_valueOf_87 (by first | exact ⟨(iF_t (qual_0 (by assumption))).symm, rfl⟩ | exact ⟨by unfold valM valS; rw [iF_f (by rw [hq2]; exact nI_nem1 (by omega)), hq2, nI_clamp (by omega)], rfl⟩) (by decide) (by decide)

set_option maxRecDepth 100000 in
set_option maxHeartbeats 4000000 in
theorem c_X6_ends (l : Launch) (D : Gt) (T : List Nat) (ad : Nat → Nat) (σ : Mm) {nr ng : Nat} (hT : TG nr ng T) (x : Int32) : KV D l yX6_ends (uws yX6_ends cX6_ends 2 none) (RM 1 0 0) [.ref (ad 400), .int x] (T, ad, cO D ad σ) (fun S1 => S1 = (T, ad, cO D ad (up σ 60 23 (iF (σ 60 23 = x) (-1) (σ 60 23))))) (nX) 0 0 := by
  refine KV_of (own := RX6) (L0 := [some (.ref (ad 400)), some (.int x)]) (by decide +kernel) rfl (catc rfl (catc rfl cat0)) (Nat.le_of_ble_eq_true rfl) rfl ?_
  intro p e s m args below meth c A hnm C
  refine r_aload0 (pc := 0) C dX6_ends_0 ?_
  refine r_aload0 (pc := 1) C dX6_ends_1 ?_
  refine gX6_68 (pc := 2) C hT dX6_ends_2 ?_
  refine r_iload1 (pc := 5) C dX6_ends_5 ?_
  refine r_icmp_ne (pc := 6) C (tgt := 13) dX6_ends_6 (by decide) (fun c_6 => ?_) (fun c_6 => ?_)
  · refine r_aload0 (pc := 13) C dX6_ends_13 ?_
    refine gX6_68 (pc := 14) C hT dX6_ends_14 ?_
    refine pX6_68 (pc := 17) C hT dX6_ends_17 ?_
    exact r_vret C rfl dX6_ends_20 (by simp [iF, *]) (by decide) (by decide)
  · refine r_iconst (pc := 9) C (v := (-1)) dX6_ends_9 (by decide) ?_
    refine r_goto (pc := 10) C (tgt := 17) dX6_ends_10 (by decide) ?_
    refine pX6_68 (pc := 17) C hT dX6_ends_17 ?_
    exact r_vret C rfl dX6_ends_20 (by simp [iF, *]) (by decide) (by decide)

set_option maxRecDepth 100000 in
set_option maxHeartbeats 4000000 in
theorem c_X6_nextStone (l : Launch) (D : Gt) (T : List Nat) (ad : Nat → Nat) (σ : Mm) {nr ng : Nat} (hT : TG nr ng T) (hb : ∀ j, bd18 (σ 74 j)) (hn : σ 60 3 = nI nr) : KI D l yX6_nextStone (uws yX6_nextStone cX6_nextStone 4 (some .int)) (RM 4 0 0) [.ref (ad 400)] (T, ad, cO D ad σ) (fun r S1 => r = deM σ nr ∧ S1 = (T, ad, cO D ad σ)) (nX) 0 0 := by
  refine KI_of (own := RX6) (L0 := [some (.ref (ad 400)), none, none, none]) (by decide +kernel) rfl (catc rfl cat0) (Nat.le_of_ble_eq_true rfl) rfl ?_
  intro p e s m args below meth c A hnm C
  have h40 := hT.1
  have loop : ∀ (z k : Nat) (x3 : Option Value), k ≤ nr → nr < k + z → V D A 4 (T, ad, cO D ad σ) p l e (RM 4 0 0) s m args below meth c 0 0 (vx_MQ below (va_Qi (fun r S1 => r = deM σ nr ∧ S1 = (T, ad, cO D ad σ)) (PoB D A) A) (XCs D (T, ad, cO D ad σ) A (nX)) args s 0 0 A) 4 [some (.ref (ad 400)), some (.int (deM σ k)), some (.int (nI k)), x3] [] := by
    intro z
    induction z with
    | zero => intro k x3 h1 h2; omega
    | succ z ih =>
      intro k x3 h1 h2
      have hk : nI k + 1 = nI (k + 1) := nI_1 k
      refine r_iload2 (pc := 4) C dX6_nextStone_4 ?_
      refine r_aload0 (pc := 5) C dX6_nextStone_5 ?_
      refine gX6_111 (pc := 6) C hT dX6_nextStone_6 ?_
      rw [hn]
      refine r_icmp_geN (pc := 9) C (tgt := 78) dX6_nextStone_9 (by decide) (by omega) (by omega) (fun c_9 => ?_) (fun c_9 => ?_)
      · refine r_iload1 (pc := 78) C dX6_nextStone_78 ?_
        exact r_iret C rfl dX6_nextStone_79 (⟨by rw [show k = nr by omega], rfl⟩) (by decide) (by decide)
      · refine r_aload0 (pc := 12) C dX6_nextStone_12 ?_
        refine gX6_28 (pc := 13) C hT dX6_nextStone_13 ?_
        refine r_iload2 (pc := 16) C dX6_nextStone_16 ?_
        refine a409 (pc := 17) C hT rfl (by omega) dX6_nextStone_17 ?_
        refine r_if_ne (pc := 18) C (tgt := 42) dX6_nextStone_18 (by decide) (fun c_18 => ?_) (fun c_18 => ?_)
        · refine r_iconst (pc := 42) C (v := 0) dX6_nextStone_42 (by decide) ?_
          refine r_istore3 (pc := 43) C dX6_nextStone_43 ?_
          refine r_iload3 (pc := 44) C dX6_nextStone_44 ?_
          refine r_if_eq (pc := 45) C (tgt := 70) dX6_nextStone_45 (by decide) (fun c_45 => ?_) (fun c_45 => ?_)
          · refine r_iload1 (pc := 70) C dX6_nextStone_70 ?_
            refine r_istore1 (pc := 71) C dX6_nextStone_71 ?_
            refine r_iinc2 (pc := 72) C dX6_nextStone_72 hk ?_
            refine r_goto (pc := 75) C (tgt := 4) dX6_nextStone_75 (by decide) ?_
            first
            | (have e1 : deM σ (k + 1) = nI k := iF_t (by grind [canM, bI_0])
               have h3 := ih (k + 1); rw [e1] at h3; exact h3  _ (by omega) (by omega))
            | (have e1 : deM σ (k + 1) = deM σ k := iF_f (by grind [canM, bI_0])
               have h3 := ih (k + 1); rw [e1] at h3; first | exact h3  _ (by omega) (by omega) | (rw [hbj] at h3; exact h3  _ (by omega) (by omega)))
          · refine r_iload1 (pc := 48) C dX6_nextStone_48 ?_
            refine r_iconst (pc := 49) C (v := (-1)) dX6_nextStone_49 (by decide) ?_
            refine r_icmp_eq (pc := 50) C (tgt := 66) dX6_nextStone_50 (by decide) (fun c_50 => ?_) (fun c_50 => ?_)
            · refine r_iload2 (pc := 66) C dX6_nextStone_66 ?_
              refine r_goto (pc := 67) C (tgt := 71) dX6_nextStone_67 (by decide) ?_
              refine r_istore1 (pc := 71) C dX6_nextStone_71 ?_
              refine r_iinc2 (pc := 72) C dX6_nextStone_72 hk ?_
              refine r_goto (pc := 75) C (tgt := 4) dX6_nextStone_75 (by decide) ?_
              first
              | (have e1 : deM σ (k + 1) = nI k := iF_t (by grind [canM, bI_0])
                 have h3 := ih (k + 1); rw [e1] at h3; exact h3  _ (by omega) (by omega))
              | (have e1 : deM σ (k + 1) = deM σ k := iF_f (by grind [canM, bI_0])
                 have h3 := ih (k + 1); rw [e1] at h3; first | exact h3  _ (by omega) (by omega) | (rw [hbj] at h3; exact h3  _ (by omega) (by omega)))
            · obtain ⟨j, hj, hbj⟩ : ∃ j, j < k ∧ deM σ k = nI j := (deM_ix σ k).resolve_left (by assumption)
              have hc : (deM σ k).toNatClampNeg = j := by rw [hbj, nI_clamp (by omega)]
              refine r_aload0 (pc := 53) C dX6_nextStone_53 ?_
              refine r_iload2 (pc := 54) C dX6_nextStone_54 ?_
              refine kX6_151 (pc := 55) C (c_X6_valueOf l D _ _ _ hT (by omega) hb) (hT.f (by decide)) rfl dX6_nextStone_55 (Nat.le_of_ble_eq_true rfl) (by decide) ?_
              rintro _ _ ⟨rfl, rfl⟩
              refine r_aload0 (pc := 58) C dX6_nextStone_58 ?_
              refine r_iload1 (pc := 59) C dX6_nextStone_59 ?_
              rw [hbj]
              refine kX6_151 (pc := 60) C (c_X6_valueOf l D _ _ _ hT (s0 := j) (by omega) hb) (hT.f (by decide)) rfl dX6_nextStone_60 (Nat.le_of_ble_eq_true rfl) (by decide) ?_
              rintro _ _ ⟨rfl, rfl⟩
              refine r_icmp_le (pc := 63) C (tgt := 70) dX6_nextStone_63 (by decide) (fun c_63 => ?_) (fun c_63 => ?_)
              · refine r_iload1 (pc := 70) C dX6_nextStone_70 ?_
                refine r_istore1 (pc := 71) C dX6_nextStone_71 ?_
                refine r_iinc2 (pc := 72) C dX6_nextStone_72 hk ?_
                refine r_goto (pc := 75) C (tgt := 4) dX6_nextStone_75 (by decide) ?_
                first
                | (have e1 : deM σ (k + 1) = nI k := iF_t (by grind [canM, bI_0])
                   have h3 := ih (k + 1); rw [e1] at h3; exact h3  _ (by omega) (by omega))
                | (have e1 : deM σ (k + 1) = deM σ k := iF_f (by grind [canM, bI_0])
                   have h3 := ih (k + 1); rw [e1] at h3; first | exact h3  _ (by omega) (by omega) | (rw [hbj] at h3; exact h3  _ (by omega) (by omega)))
              · refine r_iload2 (pc := 66) C dX6_nextStone_66 ?_
                refine r_goto (pc := 67) C (tgt := 71) dX6_nextStone_67 (by decide) ?_
                refine r_istore1 (pc := 71) C dX6_nextStone_71 ?_
                refine r_iinc2 (pc := 72) C dX6_nextStone_72 hk ?_
                refine r_goto (pc := 75) C (tgt := 4) dX6_nextStone_75 (by decide) ?_
                first
                | (have e1 : deM σ (k + 1) = nI k := iF_t (by grind [canM, bI_0])
                   have h3 := ih (k + 1); rw [e1] at h3; exact h3  _ (by omega) (by omega))
                | (have e1 : deM σ (k + 1) = deM σ k := iF_f (by grind [canM, bI_0])
                   have h3 := ih (k + 1); rw [e1] at h3; first | exact h3  _ (by omega) (by omega) | (rw [hbj] at h3; exact h3  _ (by omega) (by omega)))
        · refine r_aload0 (pc := 21) C dX6_nextStone_21 ?_
          refine gX6_40 (pc := 22) C hT dX6_nextStone_22 ?_
          refine r_iload2 (pc := 25) C dX6_nextStone_25 ?_
          refine a413 (pc := 26) C hT rfl (by omega) dX6_nextStone_26 ?_
          refine r_if_le (pc := 27) C (tgt := 42) dX6_nextStone_27 (by decide) (fun c_27 => ?_) (fun c_27 => ?_)
          · refine r_iconst (pc := 42) C (v := 0) dX6_nextStone_42 (by decide) ?_
            refine r_istore3 (pc := 43) C dX6_nextStone_43 ?_
            refine r_iload3 (pc := 44) C dX6_nextStone_44 ?_
            refine r_if_eq (pc := 45) C (tgt := 70) dX6_nextStone_45 (by decide) (fun c_45 => ?_) (fun c_45 => ?_)
            · refine r_iload1 (pc := 70) C dX6_nextStone_70 ?_
              refine r_istore1 (pc := 71) C dX6_nextStone_71 ?_
              refine r_iinc2 (pc := 72) C dX6_nextStone_72 hk ?_
              refine r_goto (pc := 75) C (tgt := 4) dX6_nextStone_75 (by decide) ?_
              first
              | (have e1 : deM σ (k + 1) = nI k := iF_t (by grind [canM, bI_0])
                 have h3 := ih (k + 1); rw [e1] at h3; exact h3  _ (by omega) (by omega))
              | (have e1 : deM σ (k + 1) = deM σ k := iF_f (by grind [canM, bI_0])
                 have h3 := ih (k + 1); rw [e1] at h3; first | exact h3  _ (by omega) (by omega) | (rw [hbj] at h3; exact h3  _ (by omega) (by omega)))
            · refine r_iload1 (pc := 48) C dX6_nextStone_48 ?_
              refine r_iconst (pc := 49) C (v := (-1)) dX6_nextStone_49 (by decide) ?_
              refine r_icmp_eq (pc := 50) C (tgt := 66) dX6_nextStone_50 (by decide) (fun c_50 => ?_) (fun c_50 => ?_)
              · refine r_iload2 (pc := 66) C dX6_nextStone_66 ?_
                refine r_goto (pc := 67) C (tgt := 71) dX6_nextStone_67 (by decide) ?_
                refine r_istore1 (pc := 71) C dX6_nextStone_71 ?_
                refine r_iinc2 (pc := 72) C dX6_nextStone_72 hk ?_
                refine r_goto (pc := 75) C (tgt := 4) dX6_nextStone_75 (by decide) ?_
                first
                | (have e1 : deM σ (k + 1) = nI k := iF_t (by grind [canM, bI_0])
                   have h3 := ih (k + 1); rw [e1] at h3; exact h3  _ (by omega) (by omega))
                | (have e1 : deM σ (k + 1) = deM σ k := iF_f (by grind [canM, bI_0])
                   have h3 := ih (k + 1); rw [e1] at h3; first | exact h3  _ (by omega) (by omega) | (rw [hbj] at h3; exact h3  _ (by omega) (by omega)))
              · obtain ⟨j, hj, hbj⟩ : ∃ j, j < k ∧ deM σ k = nI j := (deM_ix σ k).resolve_left (by assumption)
                have hc : (deM σ k).toNatClampNeg = j := by rw [hbj, nI_clamp (by omega)]
                refine r_aload0 (pc := 53) C dX6_nextStone_53 ?_
                refine r_iload2 (pc := 54) C dX6_nextStone_54 ?_
                refine kX6_151 (pc := 55) C (c_X6_valueOf l D _ _ _ hT (by omega) hb) (hT.f (by decide)) rfl dX6_nextStone_55 (Nat.le_of_ble_eq_true rfl) (by decide) ?_
                rintro _ _ ⟨rfl, rfl⟩
                refine r_aload0 (pc := 58) C dX6_nextStone_58 ?_
                refine r_iload1 (pc := 59) C dX6_nextStone_59 ?_
                rw [hbj]
                refine kX6_151 (pc := 60) C (c_X6_valueOf l D _ _ _ hT (s0 := j) (by omega) hb) (hT.f (by decide)) rfl dX6_nextStone_60 (Nat.le_of_ble_eq_true rfl) (by decide) ?_
                rintro _ _ ⟨rfl, rfl⟩
                refine r_icmp_le (pc := 63) C (tgt := 70) dX6_nextStone_63 (by decide) (fun c_63 => ?_) (fun c_63 => ?_)
                · refine r_iload1 (pc := 70) C dX6_nextStone_70 ?_
                  refine r_istore1 (pc := 71) C dX6_nextStone_71 ?_
                  refine r_iinc2 (pc := 72) C dX6_nextStone_72 hk ?_
                  refine r_goto (pc := 75) C (tgt := 4) dX6_nextStone_75 (by decide) ?_
                  first
                  | (have e1 : deM σ (k + 1) = nI k := iF_t (by grind [canM, bI_0])
                     have h3 := ih (k + 1); rw [e1] at h3; exact h3  _ (by omega) (by omega))
                  | (have e1 : deM σ (k + 1) = deM σ k := iF_f (by grind [canM, bI_0])
                     have h3 := ih (k + 1); rw [e1] at h3; first | exact h3  _ (by omega) (by omega) | (rw [hbj] at h3; exact h3  _ (by omega) (by omega)))
                · refine r_iload2 (pc := 66) C dX6_nextStone_66 ?_
                  refine r_goto (pc := 67) C (tgt := 71) dX6_nextStone_67 (by decide) ?_
                  refine r_istore1 (pc := 71) C dX6_nextStone_71 ?_
                  refine r_iinc2 (pc := 72) C dX6_nextStone_72 hk ?_
                  refine r_goto (pc := 75) C (tgt := 4) dX6_nextStone_75 (by decide) ?_
                  first
                  | (have e1 : deM σ (k + 1) = nI k := iF_t (by grind [canM, bI_0])
                     have h3 := ih (k + 1); rw [e1] at h3; exact h3  _ (by omega) (by omega))
                  | (have e1 : deM σ (k + 1) = deM σ k := iF_f (by grind [canM, bI_0])
                     have h3 := ih (k + 1); rw [e1] at h3; first | exact h3  _ (by omega) (by omega) | (rw [hbj] at h3; exact h3  _ (by omega) (by omega)))
          · refine r_aload0 (pc := 30) C dX6_nextStone_30 ?_
            refine r_iload2 (pc := 31) C dX6_nextStone_31 ?_
            refine kX6_154 (pc := 32) C (c_X6_isDoubtful l D _ _ _ hT (by omega) hb) (hT.f (by decide)) rfl dX6_nextStone_32 (Nat.le_of_ble_eq_true rfl) (by decide) ?_
            rintro _ _ ⟨rfl, rfl⟩
            refine r_if_ne_b (pc := 35) C (tgt := 42) dX6_nextStone_35 (by decide) (fun c_35 => ?_) (fun c_35 => ?_)
            · refine r_iconst (pc := 42) C (v := 0) dX6_nextStone_42 (by decide) ?_
              refine r_istore3 (pc := 43) C dX6_nextStone_43 ?_
              refine r_iload3 (pc := 44) C dX6_nextStone_44 ?_
              refine r_if_eq (pc := 45) C (tgt := 70) dX6_nextStone_45 (by decide) (fun c_45 => ?_) (fun c_45 => ?_)
              · refine r_iload1 (pc := 70) C dX6_nextStone_70 ?_
                refine r_istore1 (pc := 71) C dX6_nextStone_71 ?_
                refine r_iinc2 (pc := 72) C dX6_nextStone_72 hk ?_
                refine r_goto (pc := 75) C (tgt := 4) dX6_nextStone_75 (by decide) ?_
                first
                | (have e1 : deM σ (k + 1) = nI k := iF_t (by grind [canM, bI_0])
                   have h3 := ih (k + 1); rw [e1] at h3; exact h3  _ (by omega) (by omega))
                | (have e1 : deM σ (k + 1) = deM σ k := iF_f (by grind [canM, bI_0])
                   have h3 := ih (k + 1); rw [e1] at h3; first | exact h3  _ (by omega) (by omega) | (rw [hbj] at h3; exact h3  _ (by omega) (by omega)))
              · refine r_iload1 (pc := 48) C dX6_nextStone_48 ?_
                refine r_iconst (pc := 49) C (v := (-1)) dX6_nextStone_49 (by decide) ?_
                refine r_icmp_eq (pc := 50) C (tgt := 66) dX6_nextStone_50 (by decide) (fun c_50 => ?_) (fun c_50 => ?_)
                · refine r_iload2 (pc := 66) C dX6_nextStone_66 ?_
                  refine r_goto (pc := 67) C (tgt := 71) dX6_nextStone_67 (by decide) ?_
                  refine r_istore1 (pc := 71) C dX6_nextStone_71 ?_
                  refine r_iinc2 (pc := 72) C dX6_nextStone_72 hk ?_
                  refine r_goto (pc := 75) C (tgt := 4) dX6_nextStone_75 (by decide) ?_
                  first
                  | (have e1 : deM σ (k + 1) = nI k := iF_t (by grind [canM, bI_0])
                     have h3 := ih (k + 1); rw [e1] at h3; exact h3  _ (by omega) (by omega))
                  | (have e1 : deM σ (k + 1) = deM σ k := iF_f (by grind [canM, bI_0])
                     have h3 := ih (k + 1); rw [e1] at h3; first | exact h3  _ (by omega) (by omega) | (rw [hbj] at h3; exact h3  _ (by omega) (by omega)))
                · obtain ⟨j, hj, hbj⟩ : ∃ j, j < k ∧ deM σ k = nI j := (deM_ix σ k).resolve_left (by assumption)
                  have hc : (deM σ k).toNatClampNeg = j := by rw [hbj, nI_clamp (by omega)]
                  refine r_aload0 (pc := 53) C dX6_nextStone_53 ?_
                  refine r_iload2 (pc := 54) C dX6_nextStone_54 ?_
                  refine kX6_151 (pc := 55) C (c_X6_valueOf l D _ _ _ hT (by omega) hb) (hT.f (by decide)) rfl dX6_nextStone_55 (Nat.le_of_ble_eq_true rfl) (by decide) ?_
                  rintro _ _ ⟨rfl, rfl⟩
                  refine r_aload0 (pc := 58) C dX6_nextStone_58 ?_
                  refine r_iload1 (pc := 59) C dX6_nextStone_59 ?_
                  rw [hbj]
                  refine kX6_151 (pc := 60) C (c_X6_valueOf l D _ _ _ hT (s0 := j) (by omega) hb) (hT.f (by decide)) rfl dX6_nextStone_60 (Nat.le_of_ble_eq_true rfl) (by decide) ?_
                  rintro _ _ ⟨rfl, rfl⟩
                  refine r_icmp_le (pc := 63) C (tgt := 70) dX6_nextStone_63 (by decide) (fun c_63 => ?_) (fun c_63 => ?_)
                  · refine r_iload1 (pc := 70) C dX6_nextStone_70 ?_
                    refine r_istore1 (pc := 71) C dX6_nextStone_71 ?_
                    refine r_iinc2 (pc := 72) C dX6_nextStone_72 hk ?_
                    refine r_goto (pc := 75) C (tgt := 4) dX6_nextStone_75 (by decide) ?_
                    first
                    | (have e1 : deM σ (k + 1) = nI k := iF_t (by grind [canM, bI_0])
                       have h3 := ih (k + 1); rw [e1] at h3; exact h3  _ (by omega) (by omega))
                    | (have e1 : deM σ (k + 1) = deM σ k := iF_f (by grind [canM, bI_0])
                       have h3 := ih (k + 1); rw [e1] at h3; first | exact h3  _ (by omega) (by omega) | (rw [hbj] at h3; exact h3  _ (by omega) (by omega)))
                  · refine r_iload2 (pc := 66) C dX6_nextStone_66 ?_
                    refine r_goto (pc := 67) C (tgt := 71) dX6_nextStone_67 (by decide) ?_
                    refine r_istore1 (pc := 71) C dX6_nextStone_71 ?_
                    refine r_iinc2 (pc := 72) C dX6_nextStone_72 hk ?_
                    refine r_goto (pc := 75) C (tgt := 4) dX6_nextStone_75 (by decide) ?_
                    first
                    | (have e1 : deM σ (k + 1) = nI k := iF_t (by grind [canM, bI_0])
                       have h3 := ih (k + 1); rw [e1] at h3; exact h3  _ (by omega) (by omega))
                    | (have e1 : deM σ (k + 1) = deM σ k := iF_f (by grind [canM, bI_0])
                       have h3 := ih (k + 1); rw [e1] at h3; first | exact h3  _ (by omega) (by omega) | (rw [hbj] at h3; exact h3  _ (by omega) (by omega)))
            · refine r_iconst (pc := 38) C (v := 1) dX6_nextStone_38 (by decide) ?_
              refine r_goto (pc := 39) C (tgt := 43) dX6_nextStone_39 (by decide) ?_
              refine r_istore3 (pc := 43) C dX6_nextStone_43 ?_
              refine r_iload3 (pc := 44) C dX6_nextStone_44 ?_
              refine r_if_eq (pc := 45) C (tgt := 70) dX6_nextStone_45 (by decide) (fun c_45 => ?_) (fun c_45 => ?_)
              · refine r_iload1 (pc := 70) C dX6_nextStone_70 ?_
                refine r_istore1 (pc := 71) C dX6_nextStone_71 ?_
                refine r_iinc2 (pc := 72) C dX6_nextStone_72 hk ?_
                refine r_goto (pc := 75) C (tgt := 4) dX6_nextStone_75 (by decide) ?_
                first
                | (have e1 : deM σ (k + 1) = nI k := iF_t (by grind [canM, bI_0])
                   have h3 := ih (k + 1); rw [e1] at h3; exact h3  _ (by omega) (by omega))
                | (have e1 : deM σ (k + 1) = deM σ k := iF_f (by grind [canM, bI_0])
                   have h3 := ih (k + 1); rw [e1] at h3; first | exact h3  _ (by omega) (by omega) | (rw [hbj] at h3; exact h3  _ (by omega) (by omega)))
              · refine r_iload1 (pc := 48) C dX6_nextStone_48 ?_
                refine r_iconst (pc := 49) C (v := (-1)) dX6_nextStone_49 (by decide) ?_
                refine r_icmp_eq (pc := 50) C (tgt := 66) dX6_nextStone_50 (by decide) (fun c_50 => ?_) (fun c_50 => ?_)
                · refine r_iload2 (pc := 66) C dX6_nextStone_66 ?_
                  refine r_goto (pc := 67) C (tgt := 71) dX6_nextStone_67 (by decide) ?_
                  refine r_istore1 (pc := 71) C dX6_nextStone_71 ?_
                  refine r_iinc2 (pc := 72) C dX6_nextStone_72 hk ?_
                  refine r_goto (pc := 75) C (tgt := 4) dX6_nextStone_75 (by decide) ?_
                  first
                  | (have e1 : deM σ (k + 1) = nI k := iF_t (by grind [canM, bI_0])
                     have h3 := ih (k + 1); rw [e1] at h3; exact h3  _ (by omega) (by omega))
                  | (have e1 : deM σ (k + 1) = deM σ k := iF_f (by grind [canM, bI_0])
                     have h3 := ih (k + 1); rw [e1] at h3; first | exact h3  _ (by omega) (by omega) | (rw [hbj] at h3; exact h3  _ (by omega) (by omega)))
                · obtain ⟨j, hj, hbj⟩ : ∃ j, j < k ∧ deM σ k = nI j := (deM_ix σ k).resolve_left (by assumption)
                  have hc : (deM σ k).toNatClampNeg = j := by rw [hbj, nI_clamp (by omega)]
                  refine r_aload0 (pc := 53) C dX6_nextStone_53 ?_
                  refine r_iload2 (pc := 54) C dX6_nextStone_54 ?_
                  refine kX6_151 (pc := 55) C (c_X6_valueOf l D _ _ _ hT (by omega) hb) (hT.f (by decide)) rfl dX6_nextStone_55 (Nat.le_of_ble_eq_true rfl) (by decide) ?_
                  rintro _ _ ⟨rfl, rfl⟩
                  refine r_aload0 (pc := 58) C dX6_nextStone_58 ?_
                  refine r_iload1 (pc := 59) C dX6_nextStone_59 ?_
                  rw [hbj]
                  refine kX6_151 (pc := 60) C (c_X6_valueOf l D _ _ _ hT (s0 := j) (by omega) hb) (hT.f (by decide)) rfl dX6_nextStone_60 (Nat.le_of_ble_eq_true rfl) (by decide) ?_
                  rintro _ _ ⟨rfl, rfl⟩
                  refine r_icmp_le (pc := 63) C (tgt := 70) dX6_nextStone_63 (by decide) (fun c_63 => ?_) (fun c_63 => ?_)
                  · refine r_iload1 (pc := 70) C dX6_nextStone_70 ?_
                    refine r_istore1 (pc := 71) C dX6_nextStone_71 ?_
                    refine r_iinc2 (pc := 72) C dX6_nextStone_72 hk ?_
                    refine r_goto (pc := 75) C (tgt := 4) dX6_nextStone_75 (by decide) ?_
                    first
                    | (have e1 : deM σ (k + 1) = nI k := iF_t (by grind [canM, bI_0])
                       have h3 := ih (k + 1); rw [e1] at h3; exact h3  _ (by omega) (by omega))
                    | (have e1 : deM σ (k + 1) = deM σ k := iF_f (by grind [canM, bI_0])
                       have h3 := ih (k + 1); rw [e1] at h3; first | exact h3  _ (by omega) (by omega) | (rw [hbj] at h3; exact h3  _ (by omega) (by omega)))
                  · refine r_iload2 (pc := 66) C dX6_nextStone_66 ?_
                    refine r_goto (pc := 67) C (tgt := 71) dX6_nextStone_67 (by decide) ?_
                    refine r_istore1 (pc := 71) C dX6_nextStone_71 ?_
                    refine r_iinc2 (pc := 72) C dX6_nextStone_72 hk ?_
                    refine r_goto (pc := 75) C (tgt := 4) dX6_nextStone_75 (by decide) ?_
                    first
                    | (have e1 : deM σ (k + 1) = nI k := iF_t (by grind [canM, bI_0])
                       have h3 := ih (k + 1); rw [e1] at h3; exact h3  _ (by omega) (by omega))
                    | (have e1 : deM σ (k + 1) = deM σ k := iF_f (by grind [canM, bI_0])
                       have h3 := ih (k + 1); rw [e1] at h3; first | exact h3  _ (by omega) (by omega) | (rw [hbj] at h3; exact h3  _ (by omega) (by omega)))
  refine r_iconst (pc := 0) C (v := (-1)) dX6_nextStone_0 (by decide) ?_
  refine r_istore1 (pc := 1) C dX6_nextStone_1 ?_
  refine r_iconst (pc := 2) C (v := 0) dX6_nextStone_2 (by decide) ?_
  refine r_istore2 (pc := 3) C dX6_nextStone_3 ?_
  exact loop (nr + 1) 0 _ (by omega) (by omega)

set_option maxRecDepth 100000 in
set_option maxHeartbeats 4000000 in
theorem c_X6_rankOf (l : Launch) (D : Gt) (T : List Nat) (ad : Nat → Nat) (σ : Mm) {nr ng : Nat} (hT : TG nr ng T) {b : Nat} (hb5 : b < 5) : KI D l yX6_rankOf (uws yX6_rankOf cX6_rankOf 4 (some .int)) (RM 1 0 0) [.ref (ad 400), .int (nI b)] (T, ad, cO D ad σ) (fun r S1 => r = nI (rkM σ b 5) ∧ S1 = (T, ad, cO D ad σ)) (nX) 0 0 := by
  refine KI_of (own := RX6) (L0 := [some (.ref (ad 400)), some (.int (nI b)), none, none]) (by decide +kernel) rfl (catc rfl (catc rfl cat0)) (Nat.le_of_ble_eq_true rfl) rfl ?_
  intro p e s m args below meth c A hnm C
  have loop : ∀ (z k : Nat), k ≤ 5 → 5 < k + z → V D A 4 (T, ad, cO D ad σ) p l e (RM 1 0 0) s m args below meth c 0 0 (vx_MQ below (va_Qi (fun r S1 => r = nI (rkM σ b 5) ∧ S1 = (T, ad, cO D ad σ)) (PoB D A) A) (XCs D (T, ad, cO D ad σ) A (nX)) args s 0 0 A) 4 [some (.ref (ad 400)), some (.int (nI b)), some (.int (nI (rkM σ b k))), some (.int (nI k))] [] := by
    intro z
    induction z with
    | zero => intro k h1 h2; omega
    | succ z ih =>
      intro k h1 h2
      have hk : nI k + 1 = nI (k + 1) := nI_1 k
      refine r_iload3 (pc := 4) C dX6_rankOf_4 ?_
      refine r_iconst (pc := 5) C (v := nI 5) dX6_rankOf_5 (by decide) ?_
      refine r_icmp_geN (pc := 6) C (tgt := 58) dX6_rankOf_6 (by decide) (by omega) (by omega) (fun c_6 => ?_) (fun c_6 => ?_)
      · refine r_iload2 (pc := 58) C dX6_rankOf_58 ?_
        exact r_iret C rfl dX6_rankOf_59 (⟨by rw [show k = 5 by omega], rfl⟩) (by decide) (by decide)
      · refine r_iload2 (pc := 9) C dX6_rankOf_9 ?_
        refine r_aload0 (pc := 10) C dX6_rankOf_10 ?_
        refine gX6_65 (pc := 11) C hT dX6_rankOf_11 ?_
        refine r_iload3 (pc := 14) C dX6_rankOf_14 ?_
        refine a422 (pc := 15) C hT rfl (by omega) dX6_rankOf_15 ?_
        refine r_aload0 (pc := 16) C dX6_rankOf_16 ?_
        refine gX6_65 (pc := 17) C hT dX6_rankOf_17 ?_
        refine r_iload1 (pc := 20) C dX6_rankOf_20 ?_
        refine a422 (pc := 21) C hT rfl (by omega) dX6_rankOf_21 ?_
        refine r_icmp_gt (pc := 22) C (tgt := 45) dX6_rankOf_22 (by decide) (fun c_22 => ?_) (fun c_22 => ?_)
        · refine r_iconst (pc := 45) C (v := 1) dX6_rankOf_45 (by decide) ?_
          refine r_goto (pc := 46) C (tgt := 50) dX6_rankOf_46 (by decide) ?_
          refine r_iadd (pc := 50) C dX6_rankOf_50 ?_
          first | rw [show nI (rkM σ b k) + 1 = nI (rkM σ b k + 1) from nI_1 _] | rw [show nI (rkM σ b k) + 0 = nI (rkM σ b k) from Int32.add_zero _]
          refine r_istore2 (pc := 51) C dX6_rankOf_51 ?_
          refine r_iinc3 (pc := 52) C dX6_rankOf_52 hk ?_
          refine r_goto (pc := 55) C (tgt := 4) dX6_rankOf_55 (by decide) ?_
          first
          | (have e1 : rkM σ b (k + 1) = rkM σ b k + 1 := iF_t (by grind [canM, bI_0])
             have h3 := ih (k + 1); rw [e1] at h3; exact h3 (by omega) (by omega))
          | (have e1 : rkM σ b (k + 1) = rkM σ b k := iF_f (by grind [canM, bI_0])
             have h3 := ih (k + 1); rw [e1] at h3; exact h3 (by omega) (by omega))
        · refine r_aload0 (pc := 25) C dX6_rankOf_25 ?_
          refine gX6_65 (pc := 26) C hT dX6_rankOf_26 ?_
          refine r_iload3 (pc := 29) C dX6_rankOf_29 ?_
          refine a422 (pc := 30) C hT rfl (by omega) dX6_rankOf_30 ?_
          refine r_aload0 (pc := 31) C dX6_rankOf_31 ?_
          refine gX6_65 (pc := 32) C hT dX6_rankOf_32 ?_
          refine r_iload1 (pc := 35) C dX6_rankOf_35 ?_
          refine a422 (pc := 36) C hT rfl (by omega) dX6_rankOf_36 ?_
          refine r_icmp_ne (pc := 37) C (tgt := 49) dX6_rankOf_37 (by decide) (fun c_37 => ?_) (fun c_37 => ?_)
          · refine r_iconst (pc := 49) C (v := 0) dX6_rankOf_49 (by decide) ?_
            refine r_iadd (pc := 50) C dX6_rankOf_50 ?_
            first | rw [show nI (rkM σ b k) + 1 = nI (rkM σ b k + 1) from nI_1 _] | rw [show nI (rkM σ b k) + 0 = nI (rkM σ b k) from Int32.add_zero _]
            refine r_istore2 (pc := 51) C dX6_rankOf_51 ?_
            refine r_iinc3 (pc := 52) C dX6_rankOf_52 hk ?_
            refine r_goto (pc := 55) C (tgt := 4) dX6_rankOf_55 (by decide) ?_
            first
            | (have e1 : rkM σ b (k + 1) = rkM σ b k + 1 := iF_t (by grind [canM, bI_0])
               have h3 := ih (k + 1); rw [e1] at h3; exact h3 (by omega) (by omega))
            | (have e1 : rkM σ b (k + 1) = rkM σ b k := iF_f (by grind [canM, bI_0])
               have h3 := ih (k + 1); rw [e1] at h3; exact h3 (by omega) (by omega))
          · refine r_iload3 (pc := 40) C dX6_rankOf_40 ?_
            refine r_iload1 (pc := 41) C dX6_rankOf_41 ?_
            refine r_icmp_geN (pc := 42) C (tgt := 49) dX6_rankOf_42 (by decide) (by omega) (by omega) (fun c_42 => ?_) (fun c_42 => ?_)
            · refine r_iconst (pc := 49) C (v := 0) dX6_rankOf_49 (by decide) ?_
              refine r_iadd (pc := 50) C dX6_rankOf_50 ?_
              first | rw [show nI (rkM σ b k) + 1 = nI (rkM σ b k + 1) from nI_1 _] | rw [show nI (rkM σ b k) + 0 = nI (rkM σ b k) from Int32.add_zero _]
              refine r_istore2 (pc := 51) C dX6_rankOf_51 ?_
              refine r_iinc3 (pc := 52) C dX6_rankOf_52 hk ?_
              refine r_goto (pc := 55) C (tgt := 4) dX6_rankOf_55 (by decide) ?_
              first
              | (have e1 : rkM σ b (k + 1) = rkM σ b k + 1 := iF_t (by grind [canM, bI_0])
                 have h3 := ih (k + 1); rw [e1] at h3; exact h3 (by omega) (by omega))
              | (have e1 : rkM σ b (k + 1) = rkM σ b k := iF_f (by grind [canM, bI_0])
                 have h3 := ih (k + 1); rw [e1] at h3; exact h3 (by omega) (by omega))
            · refine r_iconst (pc := 45) C (v := 1) dX6_rankOf_45 (by decide) ?_
              refine r_goto (pc := 46) C (tgt := 50) dX6_rankOf_46 (by decide) ?_
              refine r_iadd (pc := 50) C dX6_rankOf_50 ?_
              first | rw [show nI (rkM σ b k) + 1 = nI (rkM σ b k + 1) from nI_1 _] | rw [show nI (rkM σ b k) + 0 = nI (rkM σ b k) from Int32.add_zero _]
              refine r_istore2 (pc := 51) C dX6_rankOf_51 ?_
              refine r_iinc3 (pc := 52) C dX6_rankOf_52 hk ?_
              refine r_goto (pc := 55) C (tgt := 4) dX6_rankOf_55 (by decide) ?_
              first
              | (have e1 : rkM σ b (k + 1) = rkM σ b k + 1 := iF_t (by grind [canM, bI_0])
                 have h3 := ih (k + 1); rw [e1] at h3; exact h3 (by omega) (by omega))
              | (have e1 : rkM σ b (k + 1) = rkM σ b k := iF_f (by grind [canM, bI_0])
                 have h3 := ih (k + 1); rw [e1] at h3; exact h3 (by omega) (by omega))
  refine r_iconst (pc := 0) C (v := 0) dX6_rankOf_0 (by decide) ?_
  refine r_istore2 (pc := 1) C dX6_rankOf_1 ?_
  refine r_iconst (pc := 2) C (v := 0) dX6_rankOf_2 (by decide) ?_
  refine r_istore3 (pc := 3) C dX6_rankOf_3 ?_
  exact loop 6 0 (by omega) (by omega)


/-! ===== stone and cut of the book: new objects ===== -/
def HZ (nr ng : Nat) (σ : Mm) : Prop := (∀ i, nr ≤ i → σ 2 i = 0) ∧ ∀ i, ng ≤ i → σ 11 i = 0
theorem up_at {σ : Mm} {r j r2 j2 : Nat} {x : Int32} : up σ r j x r2 j2 = if r2 = r ∧ j2 = j then x else σ r2 j2 := by
  by_cases h : r2 = r
  · subst h
    rw [up_eq]
    unfold upd
    by_cases g : j2 = j
    · rw [if_pos g, if_pos ⟨rfl, g⟩]
    · rw [if_neg g, if_neg (fun z => g z.2)]
  · rw [up_ne h, if_neg (fun z => h z.1)]
/-- the world stays where neither the addresses nor the rows of its own objects change -/
theorem cO_T {D : Gt} {T : List Nat} {nr ng : Nat} {σ σ2 : Mm} {ad ad2 : Nat → Nat} (hT : TG nr ng T) (hz : HZ nr ng σ) (ht : tOK nr σ) (had : ∀ k, k ∈ T → ad2 k = ad k) (h1 : ∀ r, r < 20 ∨ 60 ≤ r → σ2 r = σ r) (h2 : ∀ r i, 20 ≤ r → r < 40 → i < nr → σ2 r i = σ r i) (h3 : ∀ r i, 40 ≤ r → r < 60 → i < ng → σ2 r i = σ r i) : ∀ k, k ∈ T → cO D ad2 σ2 k = cO D ad σ k := by
  intro k hk
  have h40 := hT.1
  have h80 := hT.2.1
  have af : ∀ j, j ∈ ftags → ad2 j = ad j := fun j hj => had j (hT.f hj)
  rcases (hT.2.2 k).mp hk with q | ⟨q1, q2⟩ | ⟨q1, q2⟩ | ⟨q1, q2⟩ | ⟨q1, q2⟩
  · have e0 : σ2 0 = σ 0 := h1 0 (Or.inl (by decide))
    have e2 : σ2 2 = σ 2 := h1 2 (Or.inl (by decide))
    have e9 : σ2 9 = σ 9 := h1 9 (Or.inl (by decide))
    have e11 : σ2 11 = σ 11 := h1 11 (Or.inl (by decide))
    have r2 : rfs ad2 100 (σ2 2) = rfs ad 100 (σ 2) := by
      rw [e2]
      funext i
      unfold rfs
      by_cases z : σ 2 i = 0
      · rw [if_pos z, if_pos z]
      · have hi : i < nr := Nat.lt_of_not_le (fun g => z (hz.1 i g))
        rw [if_neg z, if_neg z, had _ (hT.r hi)]
    have r11 : rfs ad2 200 (σ2 11) = rfs ad 200 (σ 11) := by
      rw [e11]
      funext i
      unfold rfs
      by_cases z : σ 11 i = 0
      · rw [if_pos z, if_pos z]
      · have hi : i < ng := Nat.lt_of_not_le (fun g => z (hz.2 i g))
        rw [if_neg z, if_neg z, had _ (hT.g hi)]
    have r9 : tdr ad2 (σ2 9 0) = tdr ad (σ 9 0) := by
      rw [e9]
      rcases ht with z | ⟨j, hj, z⟩
      · rw [z, tdr_0, tdr_0]
      · rw [z, tdr_some (by omega), tdr_some (by omega), had _ (hT.r hj)]
    have hb : oBook ad2 σ2 = oBook ad σ := by
      unfold oBook
      rw [e0]
      simp only [af 1 (by decide), af 2 (by decide), af 3 (by decide), af 4 (by decide), af 6 (by decide), af 7 (by decide), af 8 (by decide), af 9 (by decide), af 11 (by decide), af 12 (by decide), af 13 (by decide), af 14 (by decide)]
    have hte : oTender ad2 σ2 = oTender ad σ := by
      unfold oTender
      rw [r9, e9, af 10 (by decide)]
    rcases (show k = 0 ∨ k = 1 ∨ k = 2 ∨ k = 3 ∨ k = 4 ∨ k = 5 ∨ k = 6 ∨ k = 7 ∨ k = 8 ∨ k = 9 ∨ k = 10 ∨ k = 11 ∨ k = 12 ∨ k = 13 ∨ k = 14 by simpa [ftags] using q) with rfl | rfl | rfl | rfl | rfl | rfl | rfl | rfl | rfl | rfl | rfl | rfl | rfl | rfl | rfl
    all_goals first
      | exact hb
      | exact hte
      | exact congrArg (fun z => (Sum.inl (D.2 3, 40, Sum.inr (Sum.inr (Sum.inr (Sum.inr z)))) : va_E)) r2
      | exact congrArg (fun z => (Sum.inl (D.2 4, 80, Sum.inr (Sum.inr (Sum.inr (Sum.inr z)))) : va_E)) r11
      | exact congrArg (fun z => (Sum.inr (2, [Value.ref z]) : va_E)) (af 5 (by decide))
      | exact congrArg (fun z => (Sum.inl (_, _, Sum.inl z) : va_E)) (h1 _ (by decide))
  · obtain ⟨i, rfl⟩ : ∃ i, k = 100 + i := ⟨k - 100, by omega⟩
    rw [cO_r (by omega), cO_r (by omega)]
    unfold oRough
    rw [had _ (hT.s (i := i) (by omega))]
    simp only [h2 20 i (by decide) (by decide) (by omega), h2 21 i (by decide) (by decide) (by omega), h2 22 i (by decide) (by decide) (by omega), h2 23 i (by decide) (by decide) (by omega), h2 24 i (by decide) (by decide) (by omega), h2 25 i (by decide) (by decide) (by omega), h2 26 i (by decide) (by decide) (by omega), h2 28 i (by decide) (by decide) (by omega), h2 29 i (by decide) (by decide) (by omega), h2 30 i (by decide) (by decide) (by omega), h2 31 i (by decide) (by decide) (by omega)]
  · obtain ⟨i, rfl⟩ : ∃ i, k = 150 + i := ⟨k - 150, by omega⟩
    rw [cO_s (by omega), cO_s (by omega)]
    unfold oOpn
    simp only [h2 32 i (by decide) (by decide) (by omega), h2 33 i (by decide) (by decide) (by omega), h2 34 i (by decide) (by decide) (by omega), h2 35 i (by decide) (by decide) (by omega), h2 36 i (by decide) (by decide) (by omega)]
  · obtain ⟨i, rfl⟩ : ∃ i, k = 200 + i := ⟨k - 200, by omega⟩
    rw [cO_g (by omega), cO_g (by omega)]
    unfold oGem
    rw [had _ (hT.l (i := i) (by omega))]
    simp only [h3 40 i (by decide) (by decide) (by omega), h3 41 i (by decide) (by decide) (by omega), h3 42 i (by decide) (by decide) (by omega), h3 43 i (by decide) (by decide) (by omega), h3 44 i (by decide) (by decide) (by omega), h3 45 i (by decide) (by decide) (by omega), h3 47 i (by decide) (by decide) (by omega), h3 48 i (by decide) (by decide) (by omega)]
  · obtain ⟨i, rfl⟩ : ∃ i, k = 300 + i := ⟨k - 300, by omega⟩
    rw [cO_l (by omega), cO_l (by omega)]
    unfold oOpn
    simp only [h3 50 i (by decide) (by decide) (by omega), h3 51 i (by decide) (by decide) (by omega), h3 52 i (by decide) (by decide) (by omega), h3 53 i (by decide) (by decide) (by omega), h3 54 i (by decide) (by decide) (by omega)]
def nuR (σ : Mm) (n : Nat) (x1 x2 x3 x4 x5 x6 : Int32) : Mm := up (up (up (up (up (up (up (up (up (up (up (up (up (up (up (up (σ) 20 n (nI n)) 21 n x1) 22 n x2) 23 n x3) 24 n x4) 25 n x5) 26 n x6) 28 n 0) 29 n (-1)) 30 n (-1)) 31 n 0) 32 n 0) 33 n 0) 34 n 0) 35 n 0) 36 n 0
def nuG (σ : Mm) (n : Nat) (x1 x2 x3 x4 x5 x6 x7 : Int32) : Mm := up (up (up (up (up (up (up (up (up (up (up (up (up (σ) 40 n x1) 41 n x2) 42 n x3) 43 n x4) 44 n x5) 45 n x6) 47 n x7) 48 n (-1)) 50 n 0) 51 n 0) 52 n 0) 53 n 0) 54 n 0
theorem nuR_r (σ : Mm) {n : Nat} {x1 x2 x3 x4 x5 x6 : Int32} {r : Nat} (h : r < 20 ∨ 40 ≤ r) : nuR σ n x1 x2 x3 x4 x5 x6 r = σ r := by
  unfold nuR
  rw [up_ne (by omega), up_ne (by omega), up_ne (by omega), up_ne (by omega), up_ne (by omega), up_ne (by omega), up_ne (by omega), up_ne (by omega), up_ne (by omega), up_ne (by omega), up_ne (by omega), up_ne (by omega), up_ne (by omega), up_ne (by omega), up_ne (by omega), up_ne (by omega)]
theorem nuR_i (σ : Mm) {n : Nat} {x1 x2 x3 x4 x5 x6 : Int32} {r i : Nat} (h : i ≠ n) : nuR σ n x1 x2 x3 x4 x5 x6 r i = σ r i := by
  unfold nuR
  rw [up_nj h, up_nj h, up_nj h, up_nj h, up_nj h, up_nj h, up_nj h, up_nj h, up_nj h, up_nj h, up_nj h, up_nj h, up_nj h, up_nj h, up_nj h, up_nj h]
theorem nuG_r (σ : Mm) {n : Nat} {x1 x2 x3 x4 x5 x6 x7 : Int32} {r : Nat} (h : r < 40 ∨ 60 ≤ r) : nuG σ n x1 x2 x3 x4 x5 x6 x7 r = σ r := by
  unfold nuG
  rw [up_ne (by omega), up_ne (by omega), up_ne (by omega), up_ne (by omega), up_ne (by omega), up_ne (by omega), up_ne (by omega), up_ne (by omega), up_ne (by omega), up_ne (by omega), up_ne (by omega), up_ne (by omega), up_ne (by omega)]
theorem nuG_i (σ : Mm) {n : Nat} {x1 x2 x3 x4 x5 x6 x7 : Int32} {r i : Nat} (h : i ≠ n) : nuG σ n x1 x2 x3 x4 x5 x6 x7 r i = σ r i := by
  unfold nuG
  rw [up_nj h, up_nj h, up_nj h, up_nj h, up_nj h, up_nj h, up_nj h, up_nj h, up_nj h, up_nj h, up_nj h, up_nj h, up_nj h]
theorem nuR_T {T : List Nat} {nr ng : Nat} (hT : TG nr ng T) (hl : nr < 40) : 100 + nr ∉ T ∧ 150 + nr ∉ T ++ [100 + nr] ∧ TG (nr + 1) (ng) (T ++ [100 + nr] ++ [150 + nr]) := by
  have h40 := hT.1
  have h80 := hT.2.1
  have k1 : ∀ k, k ∈ T ↔ _ := hT.2.2
  have e1 : 100 + nr ∉ ftags := fun h => by simp [ftags] at h; omega
  have e2 : 150 + nr ∉ ftags := fun h => by simp [ftags] at h; omega
  refine ⟨fun h => ?_, fun h => ?_, by omega, by omega, fun k => ?_⟩
  · rcases (k1 _).mp h with q | q | q | q | q
    · exact e1 q
    all_goals omega
  · rcases List.mem_append.mp h with q | q
    · rcases (k1 _).mp q with q | q | q | q | q
      · exact e2 q
      all_goals omega
    · have := List.mem_singleton.mp q; omega
  · rw [List.mem_append, List.mem_append, List.mem_singleton, List.mem_singleton, k1]
    by_cases hf : k ∈ ftags
    · exact ⟨fun _ => Or.inl hf, fun _ => Or.inl (Or.inl (Or.inl hf))⟩
    · constructor
      · rintro ((q | q) | q)
        · rcases q with q | q | q | q | q
          · exact absurd q hf
          all_goals (refine Or.inr ?_; omega)
        all_goals (refine Or.inr ?_; omega)
      · rintro (q | q)
        · exact absurd q hf
        · rcases (show (k = 100 + nr ∨ k = 150 + nr) ∨ ((100 ≤ k ∧ k < 100 + nr) ∨ (150 ≤ k ∧ k < 150 + nr) ∨ (200 ≤ k ∧ k < 200 + ng) ∨ (300 ≤ k ∧ k < 300 + ng)) by omega) with (g | g) | g
          · exact Or.inl (Or.inr g)
          · exact Or.inr g
          · exact Or.inl (Or.inl (Or.inr g))
theorem nuR_w {D : Gt} {T : List Nat} {nr ng : Nat} {σ : Mm} {ad : Nat → Nat} {x1 x2 x3 x4 x5 x6 : Int32} {q z : Nat} (hT : TG nr ng T) (hz : HZ nr ng σ) (ht : tOK nr σ) (hl : nr < 40) :
    ∀ k, k ∈ T ++ [100 + nr] ++ [150 + nr] → cO D (au (au ad (100 + nr) q) (150 + nr) z) (nuR σ nr x1 x2 x3 x4 x5 x6) k = va_up (va_up (cO D ad σ) (150 + nr) (.inr (1, [.int 0, .int 0, .int 0, .int 0, .int 0]))) (100 + nr) (.inr (3, [.int (nI nr), .int x1, .int x2, .int x3, .int x4, .int x5, .int x6, .ref z, .int 0, .int (-1), .int (-1), .int 0])) k := by
  obtain ⟨t1, t2, -⟩ := nuR_T hT hl
  have h40 := hT.1
  have h80 := hT.2.1
  intro k hk
  have e12 : 100 + nr ≠ 150 + nr := by omega
  rcases List.mem_append.mp hk with g | g
  · rcases List.mem_append.mp g with g | g
    · have k1 : k ≠ 100 + nr := fun e => t1 (e ▸ g)
      have k2 : k ≠ 150 + nr := fun e => t2 (List.mem_append_left _ (e ▸ g))
      rw [va_up_ne _ _ k1, va_up_ne _ _ k2]
      refine cO_T hT hz ht (fun j hj => ?_) (fun r h => nuR_r σ (by omega)) (fun r i a b c => ?_) (fun r i a b c => ?_) k g
      · have j1 : j ≠ 100 + nr := fun e => t1 (e ▸ hj)
        have j2 : j ≠ 150 + nr := fun e => t2 (List.mem_append_left _ (e ▸ hj))
        rw [au_ne j2, au_ne j1]
      · exact nuR_i σ (by omega)
      · rw [nuR_r σ (Or.inr (by omega))]
    · have := List.mem_singleton.mp g
      subst this
      rw [va_up_self, cO_r (by omega)]
      unfold oRough nuR
      simp [au_eq, up_at]
  · have := List.mem_singleton.mp g
    subst this
    rw [va_up_ne _ _ (Ne.symm e12), va_up_self, cO_s (by omega)]
    unfold oOpn nuR
    simp [up_at]
theorem nuG_T {T : List Nat} {nr ng : Nat} (hT : TG nr ng T) (hl : ng < 80) : 200 + ng ∉ T ∧ 300 + ng ∉ T ++ [200 + ng] ∧ TG (nr) (ng + 1) (T ++ [200 + ng] ++ [300 + ng]) := by
  have h40 := hT.1
  have h80 := hT.2.1
  have k1 : ∀ k, k ∈ T ↔ _ := hT.2.2
  have e1 : 200 + ng ∉ ftags := fun h => by simp [ftags] at h; omega
  have e2 : 300 + ng ∉ ftags := fun h => by simp [ftags] at h; omega
  refine ⟨fun h => ?_, fun h => ?_, by omega, by omega, fun k => ?_⟩
  · rcases (k1 _).mp h with q | q | q | q | q
    · exact e1 q
    all_goals omega
  · rcases List.mem_append.mp h with q | q
    · rcases (k1 _).mp q with q | q | q | q | q
      · exact e2 q
      all_goals omega
    · have := List.mem_singleton.mp q; omega
  · rw [List.mem_append, List.mem_append, List.mem_singleton, List.mem_singleton, k1]
    by_cases hf : k ∈ ftags
    · exact ⟨fun _ => Or.inl hf, fun _ => Or.inl (Or.inl (Or.inl hf))⟩
    · constructor
      · rintro ((q | q) | q)
        · rcases q with q | q | q | q | q
          · exact absurd q hf
          all_goals (refine Or.inr ?_; omega)
        all_goals (refine Or.inr ?_; omega)
      · rintro (q | q)
        · exact absurd q hf
        · rcases (show (k = 200 + ng ∨ k = 300 + ng) ∨ ((100 ≤ k ∧ k < 100 + nr) ∨ (150 ≤ k ∧ k < 150 + nr) ∨ (200 ≤ k ∧ k < 200 + ng) ∨ (300 ≤ k ∧ k < 300 + ng)) by omega) with (g | g) | g
          · exact Or.inl (Or.inr g)
          · exact Or.inr g
          · exact Or.inl (Or.inl (Or.inr g))
theorem nuG_w {D : Gt} {T : List Nat} {nr ng : Nat} {σ : Mm} {ad : Nat → Nat} {x1 x2 x3 x4 x5 x6 x7 : Int32} {q z : Nat} (hT : TG nr ng T) (hz : HZ nr ng σ) (ht : tOK nr σ) (hl : ng < 80) :
    ∀ k, k ∈ T ++ [200 + ng] ++ [300 + ng] → cO D (au (au ad (200 + ng) q) (300 + ng) z) (nuG σ ng x1 x2 x3 x4 x5 x6 x7) k = va_up (va_up (cO D ad σ) (300 + ng) (.inr (1, [.int 0, .int 0, .int 0, .int 0, .int 0]))) (200 + ng) (.inr (0, [.int x1, .int x2, .int x3, .int x4, .int x5, .int x6, .ref z, .int x7, .int (-1)])) k := by
  obtain ⟨t1, t2, -⟩ := nuG_T hT hl
  have h40 := hT.1
  have h80 := hT.2.1
  intro k hk
  have e12 : 200 + ng ≠ 300 + ng := by omega
  rcases List.mem_append.mp hk with g | g
  · rcases List.mem_append.mp g with g | g
    · have k1 : k ≠ 200 + ng := fun e => t1 (e ▸ g)
      have k2 : k ≠ 300 + ng := fun e => t2 (List.mem_append_left _ (e ▸ g))
      rw [va_up_ne _ _ k1, va_up_ne _ _ k2]
      refine cO_T hT hz ht (fun j hj => ?_) (fun r h => nuG_r σ (by omega)) (fun r i a b c => ?_) (fun r i a b c => ?_) k g
      · have j1 : j ≠ 200 + ng := fun e => t1 (e ▸ hj)
        have j2 : j ≠ 300 + ng := fun e => t2 (List.mem_append_left _ (e ▸ hj))
        rw [au_ne j2, au_ne j1]
      · rw [nuG_r σ (Or.inl (by omega))]
      · exact nuG_i σ (by omega)
    · have := List.mem_singleton.mp g
      subst this
      rw [va_up_self, cO_g (by omega)]
      unfold oGem nuG
      simp [au_eq, up_at]
  · have := List.mem_singleton.mp g
    subst this
    rw [va_up_ne _ _ (Ne.symm e12), va_up_self, cO_l (by omega)]
    unfold oOpn nuG
    simp [up_at]

/-! ===== more for the four long steps ===== -/
theorem cmM_cg3 {σ τ : Mm} (x : Int32) : ∀ n, (∀ s, s < n → pitM τ s = pitM σ s ∧ τ 65 s = σ 65 s) → cmM τ x n = cmM σ x n
  | 0, _ => rfl
  | n + 1, h => by rw [cmM, cmM, cmM_cg3 x n (fun s hs => h s (by omega)), (h n (by omega)).1, (h n (by omega)).2]
theorem tkC_at {σ : Mm} {x b t : Int32} : ∀ (k i : Nat), ((i < k ∧ ¬ σ 2 i = 0 ∧ σ 30 i = x) → tkC σ x b t k 28 i = iF (t = 0) 0 2 ∧ tkC σ x b t k 30 i = -1 ∧ tkC σ x b t k 29 i = iF (t = 0) (σ 29 i) b) ∧ (¬ (i < k ∧ ¬ σ 2 i = 0 ∧ σ 30 i = x) → tkC σ x b t k 28 i = σ 28 i ∧ tkC σ x b t k 30 i = σ 30 i ∧ tkC σ x b t k 29 i = σ 29 i)
  | 0, i => ⟨fun h => absurd h.1 (by omega), fun _ => ⟨rfl, rfl, rfl⟩⟩
  | k + 1, i => by
    obtain ⟨h1, h2⟩ := tkC_at (σ := σ) (x := x) (b := b) (t := t) k i
    obtain ⟨k1, k2⟩ := (tkC_at (σ := σ) (x := x) (b := b) (t := t) k k).2 (fun z => absurd z.1 (by omega))
    have e2 : tkC σ x b t k 2 = σ 2 := tkC_r σ x b t (by decide) (by decide) (by decide) k
    obtain ⟨τ, hτ⟩ : ∃ τ, tkC σ x b t k = τ := ⟨_, rfl⟩
    rw [tkC]
    rw [hτ] at h1 h2 k1 k2 e2 ⊢
    rw [e2, k2.1]
    by_cases e : i = k
    · subst e
      refine ⟨fun h => ?_, fun h => ?_⟩
      · rw [iF_t h.2]
        by_cases q : t = 0
        · rw [iF_t q, iF_t q, iF_t q]
          exact ⟨pk_us, pk_us, k2.2⟩
        · rw [iF_f q, iF_f q, iF_f q]
          exact ⟨pk_us, pk_us, pk_us⟩
      · rw [iF_f (fun z => h ⟨by omega, z⟩)]
        exact ⟨k1, k2⟩
    · have hi : i < k + 1 ↔ i < k := by omega
      rw [hi]
      have hr : ∀ r, (iF (¬ σ 2 k = 0 ∧ σ 30 k = x) (iF (t = 0) (up (up τ 28 k 0) 30 k (-1)) (up (up (up (up τ 28 k 0) 30 k (-1)) 28 k 2) 29 k b)) τ) r i = τ r i := fun r => by
        rcases iF_or (P := (¬ σ 2 k = 0 ∧ σ 30 k = x)) (a := (iF (t = 0) (up (up τ 28 k 0) 30 k (-1)) (up (up (up (up τ 28 k 0) 30 k (-1)) 28 k 2) 29 k b))) (b := τ) with g | g
        · rw [g]
          rcases iF_or (P := (t = 0)) (a := (up (up τ 28 k 0) 30 k (-1))) (b := (up (up (up (up τ 28 k 0) 30 k (-1)) 28 k 2) 29 k b)) with g | g
          · rw [g, up_nj e, up_nj e]
          · rw [g, up_nj e, up_nj e, up_nj e, up_nj e]
        · rw [g]
      rw [hr 28, hr 29, hr 30]
      exact ⟨h1, h2⟩
theorem tkM_at {σ : Mm} {x b t : Int32} : ∀ (k i : Nat), ((i < k ∧ σ 69 i = 1 ∧ σ 71 i = x) → tkM σ x b t k 69 i = iF (t = 0) 0 2 ∧ tkM σ x b t k 71 i = -1 ∧ tkM σ x b t k 70 i = iF (t = 0) (-1) b) ∧ (¬ (i < k ∧ σ 69 i = 1 ∧ σ 71 i = x) → tkM σ x b t k 69 i = σ 69 i ∧ tkM σ x b t k 71 i = σ 71 i ∧ tkM σ x b t k 70 i = σ 70 i)
  | 0, i => ⟨fun h => absurd h.1 (by omega), fun _ => ⟨rfl, rfl, rfl⟩⟩
  | k + 1, i => by
    obtain ⟨h1, h2⟩ := tkM_at (σ := σ) (x := x) (b := b) (t := t) k i
    obtain ⟨k1, k2⟩ := (tkM_at (σ := σ) (x := x) (b := b) (t := t) k k).2 (fun z => absurd z.1 (by omega))
    obtain ⟨τ, hτ⟩ : ∃ τ, tkM σ x b t k = τ := ⟨_, rfl⟩
    rw [tkM]
    rw [hτ] at h1 h2 k1 k2 ⊢
    rw [k1, k2.1]
    by_cases e : i = k
    · subst e
      refine ⟨fun h => ?_, fun h => ?_⟩
      · rw [iF_t h.2]
        exact ⟨pk_us, pk_us, pk_us⟩
      · rw [iF_f (fun z => h ⟨by omega, z⟩)]
        exact ⟨k1, k2⟩
    · have hi : i < k + 1 ↔ i < k := by omega
      rw [hi]
      have hr : ∀ r, (iF (σ 69 k = 1 ∧ σ 71 k = x) (up (up (up τ 69 k (iF (t = 0) 0 2)) 70 k (iF (t = 0) (-1) b)) 71 k (-1)) τ) r i = τ r i := fun r => by
        rcases iF_or (P := (σ 69 k = 1 ∧ σ 71 k = x)) (a := (up (up (up τ 69 k (iF (t = 0) 0 2)) 70 k (iF (t = 0) (-1) b)) 71 k (-1))) (b := τ) with g | g
        · rw [g, up_nj e, up_nj e, up_nj e]
        · rw [g]
      rw [hr 69, hr 70, hr 71]
      exact ⟨h1, h2⟩

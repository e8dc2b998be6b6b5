/-! ===== more for the four long steps ===== -/
theorem cmM_cg3 {σ τ : Mm} (x : Int32) : ∀ n, (∀ s, s < n → pitM τ s = pitM σ s ∧ τ 65 s = σ 65 s) → cmM τ x n = cmM σ x n
  | 0, _ => rfl
  | n + 1, h => by rw [cmM, cmM, cmM_cg3 x n (fun s hs => h s (by omega)), (h n (by omega)).1, (h n (by omega)).2]
theorem tkC_at {σ : Mm} {x b t : Int32} : ∀ (k i : Nat), ((i < k ∧ ¬ σ 2 i = 0 ∧ σ 30 i = x) → tkC σ x b t k 28 i = iF (t = 0) 0 2 ∧ tkC σ x b t k 30 i = -1 ∧ tkC σ x b t k 29 i = iF (t = 0) (σ 29 i) b) ∧ (¬ (i < k ∧ ¬ σ 2 i = 0 ∧ σ 30 i = x) → tkC σ x b t k 28 i = σ 28 i ∧ tkC σ x b t k 30 i = σ 30 i ∧ tkC σ x b t k 29 i = σ 29 i)
  | 0, i => ⟨fun h => absurd h.1 (by omega), fun _ => ⟨rfl, rfl, rfl⟩⟩
  | k + 1, i => by
    obtain ⟨h1, h2⟩ := tkC_at (σ := σ) (x := x) (b := b) (t := t) k i
    obtain ⟨k1, k2⟩ := (tkC_at (σ := σ) (x := x) (b := b) (t := t) k k).2 (fun z => absurd z.1 (by omega))
    have e2 : tkC σ x b t k 2 = σ 2 := tkC_r σ x b t (by decide) (by decide) (by decide) k
    obtain ⟨τ, hτ⟩ : ∃ τ, tkC σ x b t k = τ := ⟨_, rfl⟩
    rw [tkC]
    rw [hτ] at h1 h2 k1 k2 e2 ⊢
    rw [e2, k2.1]
    by_cases e : i = k
    · subst e
      refine ⟨fun h => ?_, fun h => ?_⟩
      · rw [iF_t h.2]
        by_cases q : t = 0
        · rw [iF_t q, iF_t q, iF_t q]
          exact ⟨pk_us, pk_us, k2.2⟩
        · rw [iF_f q, iF_f q, iF_f q]
          exact ⟨pk_us, pk_us, pk_us⟩
      · rw [iF_f (fun z => h ⟨by omega, z⟩)]
        exact ⟨k1, k2⟩
    · have hi : i < k + 1 ↔ i < k := by omega
      rw [hi]
      have hr : ∀ r, (iF (¬ σ 2 k = 0 ∧ σ 30 k = x) (iF (t = 0) (up (up τ 28 k 0) 30 k (-1)) (up (up (up (up τ 28 k 0) 30 k (-1)) 28 k 2) 29 k b)) τ) r i = τ r i := fun r => by
        rcases iF_or (P := (¬ σ 2 k = 0 ∧ σ 30 k = x)) (a := (iF (t = 0) (up (up τ 28 k 0) 30 k (-1)) (up (up (up (up τ 28 k 0) 30 k (-1)) 28 k 2) 29 k b))) (b := τ) with g | g
        · rw [g]
          rcases iF_or (P := (t = 0)) (a := (up (up τ 28 k 0) 30 k (-1))) (b := (up (up (up (up τ 28 k 0) 30 k (-1)) 28 k 2) 29 k b)) with g | g
          · rw [g, up_nj e, up_nj e]
          · rw [g, up_nj e, up_nj e, up_nj e, up_nj e]
        · rw [g]
      rw [hr 28, hr 29, hr 30]
      exact ⟨h1, h2⟩
theorem tkM_at {σ : Mm} {x b t : Int32} : ∀ (k i : Nat), ((i < k ∧ σ 69 i = 1 ∧ σ 71 i = x) → tkM σ x b t k 69 i = iF (t = 0) 0 2 ∧ tkM σ x b t k 71 i = -1 ∧ tkM σ x b t k 70 i = iF (t = 0) (-1) b) ∧ (¬ (i < k ∧ σ 69 i = 1 ∧ σ 71 i = x) → tkM σ x b t k 69 i = σ 69 i ∧ tkM σ x b t k 71 i = σ 71 i ∧ tkM σ x b t k 70 i = σ 70 i)
  | 0, i => ⟨fun h => absurd h.1 (by omega), fun _ => ⟨rfl, rfl, rfl⟩⟩
  | k + 1, i => by
    obtain ⟨h1, h2⟩ := tkM_at (σ := σ) (x := x) (b := b) (t := t) k i
    obtain ⟨k1, k2⟩ := (tkM_at (σ := σ) (x := x) (b := b) (t := t) k k).2 (fun z => absurd z.1 (by omega))
    obtain ⟨τ, hτ⟩ : ∃ τ, tkM σ x b t k = τ := ⟨_, rfl⟩
    rw [tkM]
    rw [hτ] at h1 h2 k1 k2 ⊢
    rw [k1, k2.1]
    by_cases e : i = k
    · subst e
      refine ⟨fun h => ?_, fun h => ?_⟩
      · rw [iF_t h.2]
        exact ⟨pk_us, pk_us, pk_us⟩
      · rw [iF_f (fun z => h ⟨by omega, z⟩)]
        exact ⟨k1, k2⟩
    · have hi : i < k + 1 ↔ i < k := by omega
      rw [hi]
      have hr : ∀ r, (iF (σ 69 k = 1 ∧ σ 71 k = x) (up (up (up τ 69 k (iF (t = 0) 0 2)) 70 k (iF (t = 0) (-1) b)) 71 k (-1)) τ) r i = τ r i := fun r => by
        rcases iF_or (P := (σ 69 k = 1 ∧ σ 71 k = x)) (a := (up (up (up τ 69 k (iF (t = 0) 0 2)) 70 k (iF (t = 0) (-1) b)) 71 k (-1))) (b := τ) with g | g
        · rw [g, up_nj e, up_nj e, up_nj e]
        · rw [g]
      rw [hr 69, hr 70, hr 71]
      exact ⟨h1, h2⟩
theorem nI_mulN (a b : Nat) : nI a * nI b = nI (a * b) := (Int32.ofNat_mul a b).symm
theorem nI_divN {a b : Nat} (ha : a < 2 ^ 31) (hb : b < 2 ^ 31) : nI a / nI b = nI (a / b) := by
  have hq : a / b ≤ a := Nat.div_le_self a b
  have h1 : ((a / b : Nat) : Int) = (a : Int).tdiv (b : Int) := Int.ofNat_tdiv a b
  obtain ⟨q, hqe⟩ : ∃ q, a / b = q := ⟨_, rfl⟩
  rw [hqe] at hq h1 ⊢
  refine Int32.toInt_inj.mp ?_
  rw [Int32.toInt_div, nI_toInt ha, nI_toInt hb, nI_toInt (by omega), ← h1]
  exact Int.bmod_eq_of_le (by omega) (by omega)
theorem gw_bd {c W : Nat} (hc : c ≤ 12) (hW : W ≤ 9999) : 0 ≤ nI c * nI W / 12 * 60 / 100 ∧ nI c * nI W / 12 * 60 / 100 ≤ 9999 := by
  have h1 : c * W ≤ 12 * 9999 := Nat.mul_le_mul hc hW
  have h2 : c * W / 12 ≤ 9999 := by omega
  have e : nI c * nI W / 12 * 60 / 100 = nI (c * W / 12 * 60 / 100) := by
    rw [nI_mulN, show (12 : Int32) = nI 12 from rfl, nI_divN (by omega) (by decide), show (60 : Int32) = nI 60 from rfl, nI_mulN, show (100 : Int32) = nI 100 from rfl, nI_divN (by omega) (by decide)]
  rw [e]
  exact ⟨nI_pos' (by omega), (nI_leI (b := 9999) (by omega) (by decide)).mpr (by omega)⟩
def CJ (nr n : Nat) (σ μ A B : Mm) : Prop := PGs n A ∧ (A 40 = B 87 ∧ A 47 = B 88 ∧ A 44 = B 89 ∧ A 45 = B 90 ∧ A 43 = B 91 ∧ A 48 = B 92) ∧ A 0 13 = B 60 38 ∧ (∀ p, p < n → A 41 p = σ 67 (B 87 p).toNatClampNeg ∧ A 42 p = pitM σ (B 87 p).toNatClampNeg ∧ 0 ≤ A 47 p ∧ A 47 p ≤ 9999) ∧ (∀ p, p < n → ∃ q, q < nr ∧ B 87 p = nI q) ∧ (A 50 = σ 50 ∧ A 51 = σ 51 ∧ A 52 = σ 52 ∧ A 53 = σ 53 ∧ A 54 = σ 54) ∧ (∀ k, k ≠ 12 → k ≠ 13 → A 0 k = σ 0 k) ∧ (∀ k, k ≠ 26 → k ≠ 38 → B 60 k = μ 60 k)
theorem CJ_s {nr n i k c ng : Nat} {σ μ A B : Mm} (hi : i < nr) (hnr : nr ≤ 40) (hc : c ≤ 12) (hn : ng ≤ n) (hE : RE2 ng σ) (hD : RD1 nr σ) (a25 : σ 25 = σ 67) (a29 : σ 29 = σ 70) (a23 : σ 23 = σ 65) (rA : ∀ r, r ≠ 0 → r ≠ 11 → (r < 40 ∨ 60 ≤ r) → A r = σ r) (rB : ∀ r, (r = 65 ∨ r = 70) → B r = σ r) (h : CJ nr n σ μ A B) : CJ nr (n + 1) σ μ (gemC A n i k c) (gmM B n i k c) := by
  obtain ⟨h1, ⟨h2, h3, h4, h5, h6, h7⟩, h8, h9, h10, ⟨h11, h12, h13, h14, h15⟩, h16, h17⟩ := h
  obtain ⟨g1, g2, g3, -⟩ := hD i hi
  obtain ⟨W, hW1, hW2, hW3⟩ := rg_of (a := 12) (b := 9999) (by decide) g3
  have eW : gemW A i c = gwM B i c := by
    unfold gemW gwM
    rw [rA 23 (by decide) (by decide) (by decide), rB 65 (by decide), a23]
  have bW : 0 ≤ gemW A i c ∧ gemW A i c ≤ 9999 := by
    unfold gemW
    rw [rA 23 (by decide) (by decide) (by decide), hW3]
    exact gw_bd hc hW2
  obtain ⟨z50, z51, z52, z53, z54⟩ := hE n hn
  have e20 : A 20 i = nI i := by rw [rA 20 (by decide) (by decide) (by decide)]; exact g1
  have e25 : A 25 i = σ 67 i := by rw [rA 25 (by decide) (by decide) (by decide), a25]
  have e22 : A 22 i = pitM σ i := by rw [rA 22 (by decide) (by decide) (by decide)]; exact g2
  have e29 : A 29 i = B 70 i := by rw [rA 29 (by decide) (by decide) (by decide), rB 70 (by decide), a29]
  obtain ⟨wC, hwC⟩ : ∃ wC, wC = gemW A i c := ⟨_, rfl⟩
  obtain ⟨wM, hwM⟩ : ∃ wM, wM = gwM B i c := ⟨_, rfl⟩
  unfold gemC gmM
  rw [← hwC, ← hwM, e20, e25, e22, e29]
  rw [← hwC] at bW
  have eW2 : wC = wM := by rw [hwC, hwM, eW]
  refine ⟨fun p hp => ?_, ⟨?_, ?_, ?_, ?_, ?_, ?_⟩, ?_, fun p hp => ?_, fun p hp => ?_, ⟨?_, ?_, ?_, ?_, ?_⟩, fun j h12 h13 => ?_, fun j h26 h38 => ?_⟩
  · show ¬ upd (A 11) n 1 p = 0 ↔ p < n + 1
    by_cases e : p = n
    · subst e; rw [pk_us]; exact ⟨fun _ => by omega, fun _ => by decide⟩
    · rw [pk_un e]; exact (h1 p hp).trans ⟨fun _ => by omega, fun _ => by omega⟩
  · show upd (A 40) n (nI i) = upd (B 87) n (nI i)
    rw [h2]
  · show upd (A 47) n wC = upd (B 88) n wM
    rw [h3, eW2]
  · show upd (A 44) n (nI k) = upd (B 89) n (nI k)
    rw [h4]
  · show upd (A 45) n (nI c) = upd (B 90) n (nI c)
    rw [h5]
  · show upd (A 43) n (B 70 i) = upd (B 91) n (B 70 i)
    rw [h6]
  · show upd (A 48) n (-1) = upd (B 92) n (-1)
    rw [h7]
  · show A 0 13 - wC = B 60 38 - wM
    rw [h8, eW2]
  · show upd (A 41) n (σ 67 i) p = σ 67 (upd (B 87) n (nI i) p).toNatClampNeg ∧ upd (A 42) n (pitM σ i) p = pitM σ (upd (B 87) n (nI i) p).toNatClampNeg ∧ 0 ≤ upd (A 47) n wC p ∧ upd (A 47) n wC p ≤ 9999
    by_cases e : p = n
    · subst e
      rw [pk_us, pk_us, pk_us, pk_us, nI_clamp (by omega)]
      exact ⟨rfl, rfl, bW⟩
    · rw [pk_un e, pk_un e, pk_un e, pk_un e]
      exact h9 p (by omega)
  · show ∃ q, q < nr ∧ upd (B 87) n (nI i) p = nI q
    by_cases e : p = n
    · subst e; exact ⟨i, hi, pk_us⟩
    · rw [pk_un e]; exact h10 p (by omega)
  · show upd (A 50) n 0 = σ 50
    rw [h11]; exact upd_s z50
  · show upd (A 51) n 0 = σ 51
    rw [h12]; exact upd_s z51
  · show upd (A 52) n 0 = σ 52
    rw [h13]; exact upd_s z52
  · show upd (A 53) n 0 = σ 53
    rw [h14]; exact upd_s z53
  · show upd (A 54) n 0 = σ 54
    rw [h15]; exact upd_s z54
  · show upd (upd (A 0) 12 (nI (n + 1))) 13 (A 0 13 - wC) j = σ 0 j
    rw [pk_un h13, pk_un h12]; exact h16 j h12 h13
  · show upd (upd (B 60) 38 (B 60 38 - wM)) 26 (nI (n + 1)) j = μ 60 j
    rw [pk_un h26, pk_un h38]; exact h17 j h26 h38
theorem CJ_all {nr ng i : Nat} {σ μ : Mm} (hi : i < nr) (hnr : nr ≤ 40) (hE : RE2 ng σ) (hD : RD1 nr σ) (a26 : σ 26 = σ 68) (a25 : σ 25 = σ 67) (a29 : σ 29 = σ 70) (a23 : σ 23 = σ 65) (m68 : μ 68 = σ 68) (rm : ∀ r, (r = 65 ∨ r = 70) → μ r = σ r) (m60 : σ 0 13 = μ 60 38) (h : CJ nr ng σ μ σ μ) : ∀ k, k ≤ 12 → CJ nr (ng + pcN (σ 26 i) k) σ μ (cgC σ ng i k) (cgM μ ng i k)
  | 0, _ => by
    obtain ⟨h1, h2, h8, h9, h10, h11, h16, h17⟩ := h
    refine ⟨h1, h2, ?_, h9, h10, h11, fun j h12 h13 => ?_, fun j h26 h38 => ?_⟩
    · show σ 0 13 + σ 23 i = μ 60 38 + μ 65 i
      rw [m60, rm 65 (by decide), a23]
    · show upd (σ 0) 13 (σ 0 13 + σ 23 i) j = σ 0 j
      exact pk_un h13
    · show upd (μ 60) 38 (μ 60 38 + μ 65 i) j = μ 60 j
      exact pk_un h38
  | k + 1, hk => by
    have ih := CJ_all hi hnr hE hD a26 a25 a29 a23 m68 rm m60 h k (by omega)
    have e68 : μ 68 i = σ 26 i := by rw [m68, a26]
    rw [cgC, cgM, pcN, e68]
    by_cases q : 0 < plN (σ 26 i) k
    · rw [iF_t q, iF_t q, iF_t q]
      exact CJ_s (ng := ng) hi hnr (plN_le _ _ (by omega)) (Nat.le_add_right _ _) hE hD a25 a29 a23 (fun r h0 h1 h2 => cgC_r σ ng i h0 h1 h2 k) (fun r hr => by rw [cgM_r μ ng i (by omega) (by omega) k]; exact rm r hr) ih
    · rw [iF_f q, iF_f q, iF_f q]
      exact ih

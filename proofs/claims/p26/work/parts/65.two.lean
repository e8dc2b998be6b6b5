/-! ===== the same call on both books: the same answer, and they still agree ===== -/
section TWO
variable {D : Gt} {T1 T2 : List Nat} {ad1 ad2 : Nat → Nat} {nr ng np nb : Nat} {C : Nat → Prop} {π : Nat → Nat} {σ τ : Mm} {r1 r2 x y v : Int32} {S1 S2 : St}
theorem W_drift (h : J nr ng np nb C π σ τ) (h1 : ((∃ j, j < 4 ∧ x = nI j ∧ ((-2) ≤ y ∧ y ≤ 2) ∧ r1 = σ 3 j ∧ S1 = (T1, ad1, cO D ad1 (up σ 3 j y))) ∨ (r1 = -70 ∧ S1 = (T1, ad1, cO D ad1 σ) ∧ ∃ E : String, (E = sIOB ∧ ¬ (0 ≤ x ∧ x < nI 4)) ∨ (E = sIAE ∧ (0 ≤ x ∧ x < nI 4) ∧ ¬ ((-2) ≤ y ∧ y ≤ 2))))) (h2 : ((∃ j, j < 4 ∧ x = nI j ∧ ((-2) ≤ y ∧ y ≤ 2) ∧ r2 = τ 3 j ∧ S2 = (T2, ad2, cO D ad2 (up τ 3 j y))) ∨ (r2 = -70 ∧ S2 = (T2, ad2, cO D ad2 τ) ∧ ∃ E : String, (E = sIOB ∧ ¬ (0 ≤ x ∧ x < nI 4)) ∨ (E = sIAE ∧ (0 ≤ x ∧ x < nI 4) ∧ ¬ ((-2) ≤ y ∧ y ≤ 2))))) : r2 = r1 ∧ ∃ σ2 τ2 : Mm, S1 = (T1, ad1, cO D ad1 σ2) ∧ S2 = (T2, ad2, cO D ad2 τ2) ∧ J nr ng np nb C π σ2 τ2 := by
  have e := h.2.1
  rcases h1 with ⟨j, hj, rfl, hy, rfl, rfl⟩ | ⟨rfl, rfl, E1, g1⟩
  · rcases h2 with ⟨j2, hj2, ej, -, rfl, rfl⟩ | ⟨-, -, E, g⟩
    · rw [nI_eq (by omega) (by omega)] at ej
      subst ej
      exact ⟨by rw [e 3 (by decide) (by decide)], _, _, rfl, rfl, J_1 3 j _ (by omega) h⟩
    · rcases g with ⟨-, g⟩ | ⟨-, -, g⟩
      · exact absurd (ix_in hj (by decide)) g
      · exact absurd hy g
  · rcases h2 with ⟨j, hj, rfl, hy, rfl, rfl⟩ | ⟨rfl, rfl, E2, g2⟩
    · have g := g1
      rcases g with ⟨-, g⟩ | ⟨-, -, g⟩
      · exact absurd (ix_in hj (by decide)) g
      · exact absurd hy g
    · exact ⟨rfl, σ, τ, rfl, rfl, h⟩
theorem W_scale (h : J nr ng np nb C π σ τ) (h1 : ((∃ j, j < 3 ∧ x = nI j ∧ ((-1) ≤ y ∧ y ≤ 1) ∧ r1 = σ 12 j ∧ S1 = (T1, ad1, cO D ad1 (up σ 12 j y))) ∨ (r1 = -70 ∧ S1 = (T1, ad1, cO D ad1 σ) ∧ ∃ E : String, (E = sIOB ∧ ¬ (0 ≤ x ∧ x < nI 3)) ∨ (E = sIAE ∧ (0 ≤ x ∧ x < nI 3) ∧ ¬ ((-1) ≤ y ∧ y ≤ 1))))) (h2 : ((∃ j, j < 3 ∧ x = nI j ∧ ((-1) ≤ y ∧ y ≤ 1) ∧ r2 = τ 12 j ∧ S2 = (T2, ad2, cO D ad2 (up τ 12 j y))) ∨ (r2 = -70 ∧ S2 = (T2, ad2, cO D ad2 τ) ∧ ∃ E : String, (E = sIOB ∧ ¬ (0 ≤ x ∧ x < nI 3)) ∨ (E = sIAE ∧ (0 ≤ x ∧ x < nI 3) ∧ ¬ ((-1) ≤ y ∧ y ≤ 1))))) : r2 = r1 ∧ ∃ σ2 τ2 : Mm, S1 = (T1, ad1, cO D ad1 σ2) ∧ S2 = (T2, ad2, cO D ad2 τ2) ∧ J nr ng np nb C π σ2 τ2 := by
  have e := h.2.1
  rcases h1 with ⟨j, hj, rfl, hy, rfl, rfl⟩ | ⟨rfl, rfl, E1, g1⟩
  · rcases h2 with ⟨j2, hj2, ej, -, rfl, rfl⟩ | ⟨-, -, E, g⟩
    · rw [nI_eq (by omega) (by omega)] at ej
      subst ej
      exact ⟨by rw [e 12 (by decide) (by decide)], _, _, rfl, rfl, J_1 12 j _ (by omega) h⟩
    · rcases g with ⟨-, g⟩ | ⟨-, -, g⟩
      · exact absurd (ix_in hj (by decide)) g
      · exact absurd hy g
  · rcases h2 with ⟨j, hj, rfl, hy, rfl, rfl⟩ | ⟨rfl, rfl, E2, g2⟩
    · have g := g1
      rcases g with ⟨-, g⟩ | ⟨-, -, g⟩
      · exact absurd (ix_in hj (by decide)) g
      · exact absurd hy g
    · exact ⟨rfl, σ, τ, rfl, rfl, h⟩
theorem W_sort (h : J nr ng np nb C π σ τ) (h1 : ((∃ j i, j < 4 ∧ i < nr ∧ x = nI j ∧ y = nI i ∧ (σ 28 i = 0 ∧ ¬ 3 ≤ σ 33 i ∧ (σ 32 i >>> (nI j &&& 31)) &&& 1 = 0) ∧ r1 = soC σ j i ∧ S1 = (T1, ad1, cO D ad1 (srC σ j i (soC σ j i)))) ∨ (r1 = -70 ∧ S1 = (T1, ad1, cO D ad1 σ) ∧ ∃ E : String, (E = sIOB ∧ ¬ ((0 ≤ x ∧ x < nI 4) ∧ (0 ≤ y ∧ y < nI nr))) ∨ (E = sISE ∧ ((0 ≤ x ∧ x < nI 4) ∧ (0 ≤ y ∧ y < nI nr)) ∧ ∃ i, i < nr ∧ y = nI i ∧ ¬ (σ 28 i = 0 ∧ ¬ 3 ≤ σ 33 i ∧ (σ 32 i >>> (x &&& 31)) &&& 1 = 0))))) (h2 : ((∃ j i, j < 4 ∧ i < nr ∧ x = nI j ∧ y = nI i ∧ (τ 28 i = 0 ∧ ¬ 3 ≤ τ 33 i ∧ (τ 32 i >>> (nI j &&& 31)) &&& 1 = 0) ∧ r2 = soC τ j i ∧ S2 = (T2, ad2, cO D ad2 (srC τ j i (soC τ j i)))) ∨ (r2 = -70 ∧ S2 = (T2, ad2, cO D ad2 τ) ∧ ∃ E : String, (E = sIOB ∧ ¬ ((0 ≤ x ∧ x < nI 4) ∧ (0 ≤ y ∧ y < nI nr))) ∨ (E = sISE ∧ ((0 ≤ x ∧ x < nI 4) ∧ (0 ≤ y ∧ y < nI nr)) ∧ ∃ i, i < nr ∧ y = nI i ∧ ¬ (τ 28 i = 0 ∧ ¬ 3 ≤ τ 33 i ∧ (τ 32 i >>> (x &&& 31)) &&& 1 = 0))))) : r2 = r1 ∧ ∃ σ2 τ2 : Mm, S1 = (T1, ad1, cO D ad1 σ2) ∧ S2 = (T2, ad2, cO D ad2 τ2) ∧ J nr ng np nb C π σ2 τ2 := by
  have e := h.2.1
  have hn := h.2.2.2.2.2.2
  have e28 := e 28 (by decide) (by decide)
  have e33 := e 33 (by decide) (by decide)
  have e32 := e 32 (by decide) (by decide)
  rcases h1 with ⟨j, i, hj, hi, rfl, rfl, hc, rfl, rfl⟩ | ⟨rfl, rfl, E1, g1⟩
  · rcases h2 with ⟨j2, i2, hj2, hi2, ej, ei, -, rfl, rfl⟩ | ⟨-, -, E, g⟩
    · rw [nI_eq (by omega) (by omega)] at ej ei
      subst ej
      subst ei
      exact ⟨(J_sort h j i).2, _, _, rfl, rfl, (J_sort h j i).1⟩
    · rw [e28, e33, e32] at g
      rcases g with ⟨-, g⟩ | ⟨-, -, i2, hi2, ei, g⟩
      · exact absurd ⟨ix_in hj (by decide), ix_in hi (by omega)⟩ g
      · rw [nI_eq (by omega) (by omega)] at ei
        subst ei
        exact absurd hc g
  · rcases h2 with ⟨j, i, hj, hi, rfl, rfl, hc, rfl, rfl⟩ | ⟨rfl, rfl, E2, g2⟩
    · rw [e28, e33, e32] at hc
      rcases g1 with ⟨-, g⟩ | ⟨-, -, i2, hi2, ei, g⟩
      · exact absurd ⟨ix_in hj (by decide), ix_in hi (by omega)⟩ g
      · rw [nI_eq (by omega) (by omega)] at ei
        subst ei
        exact absurd hc g
    · exact ⟨rfl, σ, τ, rfl, rfl, h⟩
theorem W_price (h : J nr ng np nb C π σ τ) (h1 : ((∃ j i, j < 4 ∧ i < 19 ∧ x = nI j ∧ y = nI i ∧ (1 ≤ v ∧ v ≤ 99999) ∧ r1 = σ 5 (19 * j + i) ∧ S1 = (T1, ad1, cO D ad1 (up σ 5 (19 * j + i) v))) ∨ (r1 = -70 ∧ S1 = (T1, ad1, cO D ad1 σ) ∧ ∃ E : String, (E = sIOB ∧ ¬ ((0 ≤ x ∧ x < 4) ∧ (0 ≤ y ∧ y < 19))) ∨ (E = sIAE ∧ ((0 ≤ x ∧ x < 4) ∧ (0 ≤ y ∧ y < 19)) ∧ ¬ (1 ≤ v ∧ v ≤ 99999))))) (h2 : ((∃ j i, j < 4 ∧ i < 19 ∧ x = nI j ∧ y = nI i ∧ (1 ≤ v ∧ v ≤ 99999) ∧ r2 = τ 5 (19 * j + i) ∧ S2 = (T2, ad2, cO D ad2 (up τ 5 (19 * j + i) v))) ∨ (r2 = -70 ∧ S2 = (T2, ad2, cO D ad2 τ) ∧ ∃ E : String, (E = sIOB ∧ ¬ ((0 ≤ x ∧ x < 4) ∧ (0 ≤ y ∧ y < 19))) ∨ (E = sIAE ∧ ((0 ≤ x ∧ x < 4) ∧ (0 ≤ y ∧ y < 19)) ∧ ¬ (1 ≤ v ∧ v ≤ 99999))))) : r2 = r1 ∧ ∃ σ2 τ2 : Mm, S1 = (T1, ad1, cO D ad1 σ2) ∧ S2 = (T2, ad2, cO D ad2 τ2) ∧ J nr ng np nb C π σ2 τ2 := by
  have e := h.2.1
  rcases h1 with ⟨j, i, hj, hi, rfl, rfl, hv, rfl, rfl⟩ | ⟨rfl, rfl, E1, g1⟩
  · rcases h2 with ⟨j2, i2, hj2, hi2, ej, ei, -, rfl, rfl⟩ | ⟨-, -, E, g⟩
    · rw [nI_eq (by omega) (by omega)] at ej ei
      subst ej
      subst ei
      exact ⟨by rw [e 5 (by decide) (by decide)], _, _, rfl, rfl, J_1 5 _ _ (by omega) h⟩
    · rcases g with ⟨-, g⟩ | ⟨-, -, g⟩
      · exact absurd ⟨ix_in (n := 4) hj (by decide), ix_in (n := 19) hi (by decide)⟩ g
      · exact absurd hv g
  · rcases h2 with ⟨j, i, hj, hi, rfl, rfl, hv, rfl, rfl⟩ | ⟨rfl, rfl, E2, g2⟩
    · have g := g1
      rcases g with ⟨-, g⟩ | ⟨-, -, g⟩
      · exact absurd ⟨ix_in (n := 4) hj (by decide), ix_in (n := 19) hi (by decide)⟩ g
      · exact absurd hv g
    · exact ⟨rfl, σ, τ, rfl, rfl, h⟩
theorem W_bid (h : J nr ng np nb C π σ τ) (h1 : ((∃ j, j < 5 ∧ x = nI j ∧ (1 ≤ y ∧ y ≤ 999999) ∧ ¬ σ 9 0 = 0 ∧ r1 = σ 10 j ∧ S1 = (T1, ad1, cO D ad1 (up σ 10 j y))) ∨ (r1 = -70 ∧ S1 = (T1, ad1, cO D ad1 σ) ∧ ∃ E : String, (E = sIOB ∧ ¬ (0 ≤ x ∧ x < 5)) ∨ (E = sIAE ∧ (0 ≤ x ∧ x < 5) ∧ ¬ (1 ≤ y ∧ y ≤ 999999)) ∨ (E = sISE ∧ (0 ≤ x ∧ x < 5) ∧ (1 ≤ y ∧ y ≤ 999999) ∧ σ 9 0 = 0)))) (h2 : ((∃ j, j < 5 ∧ x = nI j ∧ (1 ≤ y ∧ y ≤ 999999) ∧ ¬ τ 9 0 = 0 ∧ r2 = τ 10 j ∧ S2 = (T2, ad2, cO D ad2 (up τ 10 j y))) ∨ (r2 = -70 ∧ S2 = (T2, ad2, cO D ad2 τ) ∧ ∃ E : String, (E = sIOB ∧ ¬ (0 ≤ x ∧ x < 5)) ∨ (E = sIAE ∧ (0 ≤ x ∧ x < 5) ∧ ¬ (1 ≤ y ∧ y ≤ 999999)) ∨ (E = sISE ∧ (0 ≤ x ∧ x < 5) ∧ (1 ≤ y ∧ y ≤ 999999) ∧ τ 9 0 = 0)))) : r2 = r1 ∧ ∃ σ2 τ2 : Mm, S1 = (T1, ad1, cO D ad1 σ2) ∧ S2 = (T2, ad2, cO D ad2 τ2) ∧ J nr ng np nb C π σ2 τ2 := by
  have e := h.2.1
  have e9 := e 9 (by decide) (by decide)
  rcases h1 with ⟨j, hj, rfl, hy, h9, rfl, rfl⟩ | ⟨rfl, rfl, E1, g1⟩
  · rcases h2 with ⟨j2, hj2, ej, -, -, rfl, rfl⟩ | ⟨-, -, E, g⟩
    · rw [nI_eq (by omega) (by omega)] at ej
      subst ej
      exact ⟨by rw [e 10 (by decide) (by decide)], _, _, rfl, rfl, J_1 10 _ _ (by omega) h⟩
    · rw [e9] at g
      rcases g with ⟨-, g⟩ | ⟨-, -, g⟩ | ⟨-, -, -, g⟩
      · exact absurd (ix_in (n := 5) hj (by decide)) g
      · exact absurd hy g
      · exact absurd g h9
  · rcases h2 with ⟨j, hj, rfl, hy, h9, rfl, rfl⟩ | ⟨rfl, rfl, E2, g2⟩
    · have g := g1
      rw [e9] at h9
      rcases g with ⟨-, g⟩ | ⟨-, -, g⟩ | ⟨-, -, -, g⟩
      · exact absurd (ix_in (n := 5) hj (by decide)) g
      · exact absurd hy g
      · exact absurd g h9
    · exact ⟨rfl, σ, τ, rfl, rfl, h⟩
theorem W_close (h : J nr ng np nb C π σ τ) (h1 : ((∃ i, i < nr ∧ σ 9 0 = nI (i + 1) ∧ r1 = twC σ 5 ∧ S1 = (T1, ad1, cO D ad1 (clsC σ i))) ∨ (r1 = -70 ∧ S1 = (T1, ad1, cO D ad1 σ) ∧ ∃ E : String, E = sISE ∧ σ 9 0 = 0))) (h2 : ((∃ i, i < nr ∧ τ 9 0 = nI (i + 1) ∧ r2 = twC τ 5 ∧ S2 = (T2, ad2, cO D ad2 (clsC τ i))) ∨ (r2 = -70 ∧ S2 = (T2, ad2, cO D ad2 τ) ∧ ∃ E : String, E = sISE ∧ τ 9 0 = 0))) : r2 = r1 ∧ ∃ σ2 τ2 : Mm, S1 = (T1, ad1, cO D ad1 σ2) ∧ S2 = (T2, ad2, cO D ad2 τ2) ∧ J nr ng np nb C π σ2 τ2 := by
  have e := h.2.1
  have hn := h.2.2.2.2.2.2
  have e9 := e 9 (by decide) (by decide)
  rcases h1 with ⟨i, hi, h9, rfl, rfl⟩ | ⟨rfl, rfl, E1, -, g1⟩
  · rcases h2 with ⟨i2, hi2, k9, rfl, rfl⟩ | ⟨-, -, E, -, g⟩
    · rw [e9, h9, nI_eq (by omega) (by omega)] at k9
      have : i2 = i := by omega
      subst this
      exact ⟨e.tw 5, _, _, rfl, rfl, J_close h hi h9⟩
    · rw [e9, h9] at g
      exact absurd g (nI_ne0 (by omega) (by omega))
  · rcases h2 with ⟨i, hi, h9, rfl, rfl⟩ | ⟨rfl, rfl, E2, g2⟩
    · rw [e9, g1] at h9
      exact absurd h9.symm (nI_ne0 (by omega) (by omega))
    · exact ⟨rfl, σ, τ, rfl, rfl, h⟩
theorem W_tender (h : J nr ng np nb C π σ τ) (h1 : ((r1 = 1 ∧ ∃ i, i < nr ∧ x = nI i ∧ (0 ≤ y ∧ y ≤ 999999) ∧ σ 28 i = 0 ∧ σ 9 0 = 0 ∧ S1 = (T1, ad1, cO D ad1 (upR (up (up σ 9 0 (nI (i + 1))) 9 1 y) 10 (fillF (σ 10) (-1) 5)))) ∨ (r1 = -70 ∧ S1 = (T1, ad1, cO D ad1 σ) ∧ ∃ E : String, (E = sIOB ∧ ¬ (0 ≤ x ∧ x < nI nr)) ∨ (E = sIAE ∧ (0 ≤ x ∧ x < nI nr) ∧ ¬ (0 ≤ y ∧ y ≤ 999999)) ∨ (E = sISE ∧ (0 ≤ x ∧ x < nI nr) ∧ (0 ≤ y ∧ y ≤ 999999) ∧ ∃ i, i < nr ∧ x = nI i ∧ ¬ (σ 28 i = 0 ∧ σ 9 0 = 0))))) (h2 : ((r2 = 1 ∧ ∃ i, i < nr ∧ x = nI i ∧ (0 ≤ y ∧ y ≤ 999999) ∧ τ 28 i = 0 ∧ τ 9 0 = 0 ∧ S2 = (T2, ad2, cO D ad2 (upR (up (up τ 9 0 (nI (i + 1))) 9 1 y) 10 (fillF (τ 10) (-1) 5)))) ∨ (r2 = -70 ∧ S2 = (T2, ad2, cO D ad2 τ) ∧ ∃ E : String, (E = sIOB ∧ ¬ (0 ≤ x ∧ x < nI nr)) ∨ (E = sIAE ∧ (0 ≤ x ∧ x < nI nr) ∧ ¬ (0 ≤ y ∧ y ≤ 999999)) ∨ (E = sISE ∧ (0 ≤ x ∧ x < nI nr) ∧ (0 ≤ y ∧ y ≤ 999999) ∧ ∃ i, i < nr ∧ x = nI i ∧ ¬ (τ 28 i = 0 ∧ τ 9 0 = 0))))) : r2 = r1 ∧ ∃ σ2 τ2 : Mm, S1 = (T1, ad1, cO D ad1 σ2) ∧ S2 = (T2, ad2, cO D ad2 τ2) ∧ J nr ng np nb C π σ2 τ2 := by
  have e := h.2.1
  have hn := h.2.2.2.2.2.2
  have e9 := e 9 (by decide) (by decide)
  have e28 := e 28 (by decide) (by decide)
  rcases h1 with ⟨rfl, i, hi, rfl, hy, h28, h9, rfl⟩ | ⟨rfl, rfl, E1, g1⟩
  · rcases h2 with ⟨rfl, i2, hi2, ei, -, -, -, rfl⟩ | ⟨-, -, E, g⟩
    · rw [nI_eq (by omega) (by omega)] at ei
      subst ei
      exact ⟨rfl, _, _, rfl, rfl, J_tender h hi h28⟩
    · rw [e9, e28] at g
      rcases g with ⟨-, g⟩ | ⟨-, -, g⟩ | ⟨-, -, -, i2, hi2, ei, g⟩
      · exact absurd (ix_in hi (by omega)) g
      · exact absurd hy g
      · rw [nI_eq (by omega) (by omega)] at ei
        subst ei
        exact absurd ⟨h28, h9⟩ g
  · rcases h2 with ⟨rfl, i, hi, rfl, hy, h28, h9, rfl⟩ | ⟨rfl, rfl, E2, g2⟩
    · have g := g1
      rw [e28] at h28
      rw [e9] at h9
      rcases g with ⟨-, g⟩ | ⟨-, -, g⟩ | ⟨-, -, -, i2, hi2, ei, g⟩
      · exact absurd (ix_in hi (by omega)) g
      · exact absurd hy g
      · rw [nI_eq (by omega) (by omega)] at ei
        subst ei
        exact absurd ⟨h28, h9⟩ g
    · exact ⟨rfl, σ, τ, rfl, rfl, h⟩
theorem W_take (h : J nr ng np nb C π σ τ) (h1 : ((∃ j, j < 5 ∧ x = nI j ∧ ¬ σ 7 j = -1 ∧ r1 = chg (σ 6 j) (iF (y = 0) (-10) 5) ∧ S1 = (T1, ad1, cO D ad1 (up (up (tkC σ (σ 7 j) (nI j) y 40) 7 j (-1)) 6 j (chg (σ 6 j) (iF (y = 0) (-10) 5))))) ∨ (r1 = -70 ∧ S1 = (T1, ad1, cO D ad1 σ) ∧ ∃ E : String, (E = sIOB ∧ ¬ (0 ≤ x ∧ x < nI 5)) ∨ (E = sISE ∧ (0 ≤ x ∧ x < nI 5) ∧ ∃ j, j < 5 ∧ x = nI j ∧ σ 7 j = -1)))) (h2 : ((∃ j, j < 5 ∧ x = nI j ∧ ¬ τ 7 j = -1 ∧ r2 = chg (τ 6 j) (iF (y = 0) (-10) 5) ∧ S2 = (T2, ad2, cO D ad2 (up (up (tkC τ (τ 7 j) (nI j) y 40) 7 j (-1)) 6 j (chg (τ 6 j) (iF (y = 0) (-10) 5))))) ∨ (r2 = -70 ∧ S2 = (T2, ad2, cO D ad2 τ) ∧ ∃ E : String, (E = sIOB ∧ ¬ (0 ≤ x ∧ x < nI 5)) ∨ (E = sISE ∧ (0 ≤ x ∧ x < nI 5) ∧ ∃ j, j < 5 ∧ x = nI j ∧ τ 7 j = -1)))) : r2 = r1 ∧ ∃ σ2 τ2 : Mm, S1 = (T1, ad1, cO D ad1 σ2) ∧ S2 = (T2, ad2, cO D ad2 τ2) ∧ J nr ng np nb C π σ2 τ2 := by
  have e := h.2.1
  have e7 := e 7 (by decide) (by decide)
  have e6 := e 6 (by decide) (by decide)
  rcases h1 with ⟨j, hj, rfl, h7, rfl, rfl⟩ | ⟨rfl, rfl, E1, g1⟩
  · rcases h2 with ⟨j2, hj2, ej, -, rfl, rfl⟩ | ⟨-, -, E, g⟩
    · rw [nI_eq (by omega) (by omega)] at ej
      subst ej
      refine ⟨by rw [e6], _, _, rfl, rfl, ?_⟩
      rw [e6]
      exact J_take h h7
    · rw [e7] at g
      rcases g with ⟨-, g⟩ | ⟨-, -, j2, hj2, ej, g⟩
      · exact absurd (ix_in hj (by decide)) g
      · rw [nI_eq (by omega) (by omega)] at ej
        subst ej
        exact absurd g h7
  · rcases h2 with ⟨j, hj, rfl, h7, rfl, rfl⟩ | ⟨rfl, rfl, E2, g2⟩
    · have g := g1
      rw [e7] at h7
      rcases g with ⟨-, g⟩ | ⟨-, -, j2, hj2, ej, g⟩
      · exact absurd (ix_in hj (by decide)) g
      · rw [nI_eq (by omega) (by omega)] at ej
        subst ej
        exact absurd g h7
    · exact ⟨rfl, σ, τ, rfl, rfl, h⟩
theorem W_boxes (h : J nr ng np nb C π σ τ) (h1 : ((∃ m, 1 ≤ m ∧ m ≤ 5 ∧ x = nI m ∧ r1 = nI (fillN 40 (opB σ (nI m))) ∧ S1 = (T1, ad1, cO D ad1 (offG (fillG 40 (opB σ (nI m))) m))) ∨ (r1 = -70 ∧ S1 = (T1, ad1, cO D ad1 σ) ∧ ∃ E : String, E = sIAE ∧ ¬ (1 ≤ x ∧ x ≤ 5)))) (h2 : ((∃ m, 1 ≤ m ∧ m ≤ 5 ∧ x = nI m ∧ r2 = nI (fillN 40 (opB τ (nI m))) ∧ S2 = (T2, ad2, cO D ad2 (offG (fillG 40 (opB τ (nI m))) m))) ∨ (r2 = -70 ∧ S2 = (T2, ad2, cO D ad2 τ) ∧ ∃ E : String, E = sIAE ∧ ¬ (1 ≤ x ∧ x ≤ 5)))) : r2 = r1 ∧ ∃ (m : Nat) (σ2 τ2 : Mm), S1 = (T1, ad1, cO D ad1 σ2) ∧ S2 = (T2, ad2, cO D ad2 τ2) ∧ J nr ng np m C π σ2 τ2 := by
  rcases h1 with ⟨m, hm1, hm5, rfl, rfl, rfl⟩ | ⟨rfl, rfl, E1, -, g1⟩
  · rcases h2 with ⟨m2, hm2, hm6, em, rfl, rfl⟩ | ⟨-, -, E, -, g⟩
    · rw [nI_eq (by omega) (by omega)] at em
      subst em
      obtain ⟨a, b⟩ := J_boxes h hm5
      exact ⟨by rw [b], m, _, _, rfl, rfl, a⟩
    · exact absurd ⟨(nI_leI (a := 1) (by decide) (by omega)).mpr hm1, (nI_leI (b := 5) (by omega) (by decide)).mpr hm5⟩ g
  · rcases h2 with ⟨m, hm1, hm5, rfl, rfl, rfl⟩ | ⟨rfl, rfl, E2, g2⟩
    · have g := g1
      exact absurd ⟨(nI_leI (a := 1) (by decide) (by omega)).mpr hm1, (nI_leI (b := 5) (by omega) (by decide)).mpr hm5⟩ g
    · exact ⟨rfl, nb, σ, τ, rfl, rfl, h⟩
theorem W_recut (h : J nr ng np nb C π σ τ) {q : Nat} (hq : q < ng) (h1 : ((∃ i, i < ng ∧ (nI q) = nI i ∧ (1 ≤ y ∧ y ≤ σ 47 i - 1) ∧ r1 = σ 47 i - y ∧ S1 = (T1, ad1, cO D ad1 (up (up σ 47 i y) 0 13 (σ 0 13 + (σ 47 i - y))))) ∨ (r1 = -70 ∧ S1 = (T1, ad1, cO D ad1 σ) ∧ ∃ E : String, (E = sIOB ∧ ¬ (0 ≤ (nI q) ∧ (nI q) < nI ng)) ∨ (E = sIAE ∧ (0 ≤ (nI q) ∧ (nI q) < nI ng) ∧ ∃ i, i < ng ∧ (nI q) = nI i ∧ ¬ (1 ≤ y ∧ y ≤ σ 47 i - 1))))) (h2 : ((∃ i, i < ng ∧ (nI (π q)) = nI i ∧ (1 ≤ y ∧ y ≤ τ 47 i - 1) ∧ r2 = τ 47 i - y ∧ S2 = (T2, ad2, cO D ad2 (up (up τ 47 i y) 0 13 (τ 0 13 + (τ 47 i - y))))) ∨ (r2 = -70 ∧ S2 = (T2, ad2, cO D ad2 τ) ∧ ∃ E : String, (E = sIOB ∧ ¬ (0 ≤ (nI (π q)) ∧ (nI (π q)) < nI ng)) ∨ (E = sIAE ∧ (0 ≤ (nI (π q)) ∧ (nI (π q)) < nI ng) ∧ ∃ i, i < ng ∧ (nI (π q)) = nI i ∧ ¬ (1 ≤ y ∧ y ≤ τ 47 i - 1))))) : r2 = r1 ∧ ∃ σ2 τ2 : Mm, S1 = (T1, ad1, cO D ad1 σ2) ∧ S2 = (T2, ad2, cO D ad2 τ2) ∧ J nr ng np nb C π σ2 τ2 := by
  have hn := h.ng56
  have hp := h.2.2.2.2.1.1 q hq
  have a47 := h.at hq 47 (by decide)
  rcases h1 with ⟨i, hi, ei, hy, rfl, rfl⟩ | ⟨rfl, rfl, E1, g1⟩
  · rw [nI_eq (by omega) (by omega)] at ei
    subst ei
    rcases h2 with ⟨i2, hi2, ei, -, rfl, rfl⟩ | ⟨-, -, E, g⟩
    · rw [nI_eq (by omega) (by omega)] at ei
      subst ei
      exact ⟨by rw [a47], _, _, rfl, rfl, J_recut h hq _⟩
    · rcases g with ⟨-, g⟩ | ⟨-, -, i2, hi2, ei, g⟩
      · exact absurd (ix_in hp (by omega)) g
      · rw [nI_eq (by omega) (by omega)] at ei
        subst ei
        rw [a47] at g
        exact absurd hy g
  · rcases h2 with ⟨i, hi, ei, hy, rfl, rfl⟩ | ⟨rfl, rfl, E2, g2⟩
    · rw [nI_eq (by omega) (by omega)] at ei
      subst ei
      rw [a47] at hy
      rcases g1 with ⟨-, g⟩ | ⟨-, -, i2, hi2, ei, g⟩
      · exact absurd (ix_in hq (by omega)) g
      · rw [nI_eq (by omega) (by omega)] at ei
        subst ei
        exact absurd hy g
    · exact ⟨rfl, σ, τ, rfl, rfl, h⟩
theorem W_look (h : J nr ng np nb C π σ τ) {q : Nat} (hq : q < ng) (h1 : ((∃ j i, j < 3 ∧ i < ng ∧ x = nI j ∧ (nI q) = nI i ∧ ((σ 50 i >>> (nI j &&& 31)) &&& 1 = 0 ∧ gradeC σ i = -1) ∧ r1 = loC σ j i ∧ S1 = (T1, ad1, cO D ad1 (lkC σ j i (loC σ j i)))) ∨ (r1 = -70 ∧ S1 = (T1, ad1, cO D ad1 σ) ∧ ∃ E : String, (E = sIOB ∧ ¬ ((0 ≤ x ∧ x < nI 3) ∧ (0 ≤ (nI q) ∧ (nI q) < nI ng))) ∨ (E = sISE ∧ ((0 ≤ x ∧ x < nI 3) ∧ (0 ≤ (nI q) ∧ (nI q) < nI ng)) ∧ ∃ j i, j < 3 ∧ i < ng ∧ x = nI j ∧ (nI q) = nI i ∧ ¬ ((σ 50 i >>> (nI j &&& 31)) &&& 1 = 0 ∧ gradeC σ i = -1))))) (h2 : ((∃ j i, j < 3 ∧ i < ng ∧ x = nI j ∧ (nI (π q)) = nI i ∧ ((τ 50 i >>> (nI j &&& 31)) &&& 1 = 0 ∧ gradeC τ i = -1) ∧ r2 = loC τ j i ∧ S2 = (T2, ad2, cO D ad2 (lkC τ j i (loC τ j i)))) ∨ (r2 = -70 ∧ S2 = (T2, ad2, cO D ad2 τ) ∧ ∃ E : String, (E = sIOB ∧ ¬ ((0 ≤ x ∧ x < nI 3) ∧ (0 ≤ (nI (π q)) ∧ (nI (π q)) < nI ng))) ∨ (E = sISE ∧ ((0 ≤ x ∧ x < nI 3) ∧ (0 ≤ (nI (π q)) ∧ (nI (π q)) < nI ng)) ∧ ∃ j i, j < 3 ∧ i < ng ∧ x = nI j ∧ (nI (π q)) = nI i ∧ ¬ ((τ 50 i >>> (nI j &&& 31)) &&& 1 = 0 ∧ gradeC τ i = -1))))) : r2 = r1 ∧ ∃ σ2 τ2 : Mm, S1 = (T1, ad1, cO D ad1 σ2) ∧ S2 = (T2, ad2, cO D ad2 τ2) ∧ J nr ng np nb C π σ2 τ2 := by
  have hn := h.ng56
  have hp := h.2.2.2.2.1.1 q hq
  have a50 := h.at hq 50 (by decide)
  have ag := h.gr hq
  rcases h1 with ⟨j, i, hj, hi, rfl, ei, hc, rfl, rfl⟩ | ⟨rfl, rfl, E1, g1⟩
  · rw [nI_eq (by omega) (by omega)] at ei
    subst ei
    rcases h2 with ⟨j2, i2, hj2, hi2, ej, ei, -, rfl, rfl⟩ | ⟨-, -, E, g⟩
    · rw [nI_eq (by omega) (by omega)] at ej ei
      subst ej
      subst ei
      exact ⟨(J_look h hq j).2, _, _, rfl, rfl, (J_look h hq j).1⟩
    · rcases g with ⟨-, g⟩ | ⟨-, -, j2, i2, hj2, hi2, ej, ei, g⟩
      · exact absurd ⟨ix_in hj (by decide), ix_in hp (by omega)⟩ g
      · rw [nI_eq (by omega) (by omega)] at ej ei
        subst ej
        subst ei
        rw [a50, ag] at g
        exact absurd hc g
  · rcases h2 with ⟨j, i, hj, hi, rfl, ei, hc, rfl, rfl⟩ | ⟨rfl, rfl, E2, g2⟩
    · rw [nI_eq (by omega) (by omega)] at ei
      subst ei
      rw [a50, ag] at hc
      rcases g1 with ⟨-, g⟩ | ⟨-, -, j2, i2, hj2, hi2, ej, ei, g⟩
      · exact absurd ⟨ix_in hj (by decide), ix_in hq (by omega)⟩ g
      · rw [nI_eq (by omega) (by omega)] at ej ei
        subst ej
        subst ei
        exact absurd hc g
    · exact ⟨rfl, σ, τ, rfl, rfl, h⟩
theorem W_paper (h : J nr ng np nb C π σ τ) {q : Nat} (hq : q < ng) (h1 : ((∃ i j, i < ng ∧ j < 4 ∧ (nI q) = nI i ∧ y = nI j ∧ (σ 48 i = -1 ∧ 0 ≤ (σ 13 j - σ 14 j - σ 47 i)) ∧ r1 = (σ 13 j - σ 14 j - σ 47 i) ∧ S1 = (T1, ad1, cO D ad1 (up (up σ 48 i (nI j)) 14 j (σ 14 j + σ 47 i)))) ∨ (r1 = -70 ∧ S1 = (T1, ad1, cO D ad1 σ) ∧ ∃ E : String, (E = sIOB ∧ ¬ ((0 ≤ (nI q) ∧ (nI q) < nI ng) ∧ (0 ≤ y ∧ y < nI 4))) ∨ (E = sISE ∧ ((0 ≤ (nI q) ∧ (nI q) < nI ng) ∧ (0 ≤ y ∧ y < nI 4)) ∧ ∃ i j, i < ng ∧ j < 4 ∧ (nI q) = nI i ∧ y = nI j ∧ ¬ (σ 48 i = -1 ∧ 0 ≤ (σ 13 j - σ 14 j - σ 47 i)))))) (h2 : ((∃ i j, i < ng ∧ j < 4 ∧ (nI (π q)) = nI i ∧ y = nI j ∧ (τ 48 i = -1 ∧ 0 ≤ (τ 13 j - τ 14 j - τ 47 i)) ∧ r2 = (τ 13 j - τ 14 j - τ 47 i) ∧ S2 = (T2, ad2, cO D ad2 (up (up τ 48 i (nI j)) 14 j (τ 14 j + τ 47 i)))) ∨ (r2 = -70 ∧ S2 = (T2, ad2, cO D ad2 τ) ∧ ∃ E : String, (E = sIOB ∧ ¬ ((0 ≤ (nI (π q)) ∧ (nI (π q)) < nI ng) ∧ (0 ≤ y ∧ y < nI 4))) ∨ (E = sISE ∧ ((0 ≤ (nI (π q)) ∧ (nI (π q)) < nI ng) ∧ (0 ≤ y ∧ y < nI 4)) ∧ ∃ i j, i < ng ∧ j < 4 ∧ (nI (π q)) = nI i ∧ y = nI j ∧ ¬ (τ 48 i = -1 ∧ 0 ≤ (τ 13 j - τ 14 j - τ 47 i)))))) : r2 = r1 ∧ ∃ σ2 τ2 : Mm, S1 = (T1, ad1, cO D ad1 σ2) ∧ S2 = (T2, ad2, cO D ad2 τ2) ∧ J nr ng np nb C π σ2 τ2 := by
  have hn := h.ng56
  have hp := h.2.2.2.2.1.1 q hq
  have a47 := h.at hq 47 (by decide)
  have a48 := h.at hq 48 (by decide)
  have e13 := h.2.1 13 (by decide) (by decide)
  have e14 := h.2.1 14 (by decide) (by decide)
  rcases h1 with ⟨i, j, hi, hj, ei, rfl, hc, rfl, rfl⟩ | ⟨rfl, rfl, E1, g1⟩
  · rw [nI_eq (by omega) (by omega)] at ei
    subst ei
    rcases h2 with ⟨i2, j2, hi2, hj2, ei, ej, -, rfl, rfl⟩ | ⟨-, -, E, g⟩
    · rw [nI_eq (by omega) (by omega)] at ej ei
      subst ej
      subst ei
      exact ⟨by rw [e13, e14, a47], _, _, rfl, rfl, J_paper h hq j⟩
    · rcases g with ⟨-, g⟩ | ⟨-, -, i2, j2, hi2, hj2, ei, ej, g⟩
      · exact absurd ⟨ix_in hp (by omega), ix_in hj (by decide)⟩ g
      · rw [nI_eq (by omega) (by omega)] at ej ei
        subst ej
        subst ei
        rw [a47, a48, e13, e14] at g
        exact absurd hc g
  · rcases h2 with ⟨i, j, hi, hj, ei, rfl, hc, rfl, rfl⟩ | ⟨rfl, rfl, E2, g2⟩
    · rw [nI_eq (by omega) (by omega)] at ei
      subst ei
      rw [a47, a48, e13, e14] at hc
      rcases g1 with ⟨-, g⟩ | ⟨-, -, i2, j2, hi2, hj2, ei, ej, g⟩
      · exact absurd ⟨ix_in hq (by omega), ix_in hj (by decide)⟩ g
      · rw [nI_eq (by omega) (by omega)] at ej ei
        subst ej
        subst ei
        exact absurd hc g
    · exact ⟨rfl, σ, τ, rfl, rfl, h⟩
theorem W_parcel1 {a : Nat} (ha : a < 4) (hn : np < 12) (h1 : (((∃ j, j < 4 ∧ (nI a) = nI j) ∧ np < 12 ∧ r1 = nI np ∧ S1 = (T1, ad1, cO D ad1 (up (up σ 1 np (nI a)) 0 1 (nI (np + 1))))) ∨ (r1 = -70 ∧ S1 = (T1, ad1, cO D ad1 σ) ∧ ∃ E : String, (E = sIOB ∧ ¬ (0 ≤ (nI a) ∧ (nI a) < 4)) ∨ (E = sISE ∧ (0 ≤ (nI a) ∧ (nI a) < 4) ∧ ¬ np < 12)))) : r1 = nI np ∧ S1 = (T1, ad1, cO D ad1 (up (up σ 1 np (nI a)) 0 1 (nI (np + 1)))) := by
  rcases h1 with ⟨-, -, h1, h2⟩ | ⟨-, -, E, ⟨-, g⟩ | ⟨-, -, g⟩⟩
  · exact ⟨h1, h2⟩
  · exact absurd (ix_in (n := 4) ha (by decide)) g
  · exact absurd hn g
theorem W_parcel2 {a : Nat} (ha : a < 4) (hn : np < 12) (h1 : (((∃ j, j < 4 ∧ (nI a) = nI j) ∧ np < 12 ∧ r2 = nI np ∧ S2 = (T2, ad2, cO D ad2 (up (up τ 1 np (nI a)) 0 1 (nI (np + 1))))) ∨ (r2 = -70 ∧ S2 = (T2, ad2, cO D ad2 τ) ∧ ∃ E : String, (E = sIOB ∧ ¬ (0 ≤ (nI a) ∧ (nI a) < 4)) ∨ (E = sISE ∧ (0 ≤ (nI a) ∧ (nI a) < 4) ∧ ¬ np < 12)))) : r2 = nI np ∧ S2 = (T2, ad2, cO D ad2 (up (up τ 1 np (nI a)) 0 1 (nI (np + 1)))) := by
  rcases h1 with ⟨-, -, h1, h2⟩ | ⟨-, -, E, ⟨-, g⟩ | ⟨-, -, g⟩⟩
  · exact ⟨h1, h2⟩
  · exact absurd (ix_in (n := 4) ha (by decide)) g
  · exact absurd hn g
theorem W_stone1 {b0 : Nat} {x2 x3 x4 x5 : Int32} (hb : b0 < np) (hnp : np ≤ 12) (hn : nr < 40) (hrg : ((12 ≤ x2 ∧ x2 ≤ 9999) ∧ (0 ≤ x3 ∧ x3 ≤ 9) ∧ (0 ≤ x4 ∧ x4 ≤ 9) ∧ (0 ≤ x5 ∧ x5 ≤ 4095))) (h1 : (∃ (T3 : List Nat) (ad3 : Nat → Nat) (b a : Nat), (b < np ∧ nI b0 = nI b ∧ a < 4 ∧ σ 1 b = nI a ∧ ((12 ≤ x2 ∧ x2 ≤ 9999) ∧ (0 ≤ x3 ∧ x3 ≤ 9) ∧ (0 ≤ x4 ∧ x4 ≤ 9) ∧ (0 ≤ x5 ∧ x5 ≤ 4095)) ∧ nr < 40) ∧ TG (nr + 1) ng T3 ∧ (∀ k, k ∈ T1 → ad3 k = ad1 k) ∧ r1 = nI nr ∧ S1 = (T3, ad3, cO D ad3 (stC σ nr b a x2 x3 x4 x5))) ∨ (r1 = -70 ∧ S1 = (T1, ad1, cO D ad1 σ) ∧ ∃ E : String, (E = sIOB ∧ ¬ (0 ≤ nI b0 ∧ nI b0 < nI np)) ∨ (E = sIAE ∧ (0 ≤ nI b0 ∧ nI b0 < nI np) ∧ ¬ ((12 ≤ x2 ∧ x2 ≤ 9999) ∧ (0 ≤ x3 ∧ x3 ≤ 9) ∧ (0 ≤ x4 ∧ x4 ≤ 9) ∧ (0 ≤ x5 ∧ x5 ≤ 4095))) ∨ (E = sISE ∧ (0 ≤ nI b0 ∧ nI b0 < nI np) ∧ ((12 ≤ x2 ∧ x2 ≤ 9999) ∧ (0 ≤ x3 ∧ x3 ≤ 9) ∧ (0 ≤ x4 ∧ x4 ≤ 9) ∧ (0 ≤ x5 ∧ x5 ≤ 4095)) ∧ ¬ nr < 40))) : ∃ (T3 : List Nat) (ad3 : Nat → Nat) (a : Nat), a < 4 ∧ σ 1 b0 = nI a ∧ TG (nr + 1) ng T3 ∧ (∀ k, k ∈ T1 → ad3 k = ad1 k) ∧ r1 = nI nr ∧ S1 = (T3, ad3, cO D ad3 (stC σ nr b0 a x2 x3 x4 x5)) := by
  rcases h1 with ⟨T3, ad3, b, a, ⟨g1, g2, g3, g4, -, -⟩, g5, g6, g7, g8⟩ | ⟨-, -, E, ⟨-, g⟩ | ⟨-, -, g⟩ | ⟨-, -, -, g⟩⟩
  · rw [nI_eq (by omega) (by omega)] at g2
    subst g2
    exact ⟨T3, ad3, a, g3, g4, g5, g6, g7, g8⟩
  · exact absurd (ix_in hb (by omega)) g
  · exact absurd hrg g
  · exact absurd hn g
theorem W_stone2 {b0 : Nat} {x2 x3 x4 x5 : Int32} (hb : b0 < np) (hnp : np ≤ 12) (hn : nr < 40) (hrg : ((12 ≤ x2 ∧ x2 ≤ 9999) ∧ (0 ≤ x3 ∧ x3 ≤ 9) ∧ (0 ≤ x4 ∧ x4 ≤ 9) ∧ (0 ≤ x5 ∧ x5 ≤ 4095))) (h1 : (∃ (T3 : List Nat) (ad3 : Nat → Nat) (b a : Nat), (b < np ∧ nI b0 = nI b ∧ a < 4 ∧ τ 1 b = nI a ∧ ((12 ≤ x2 ∧ x2 ≤ 9999) ∧ (0 ≤ x3 ∧ x3 ≤ 9) ∧ (0 ≤ x4 ∧ x4 ≤ 9) ∧ (0 ≤ x5 ∧ x5 ≤ 4095)) ∧ nr < 40) ∧ TG (nr + 1) ng T3 ∧ (∀ k, k ∈ T2 → ad3 k = ad2 k) ∧ r2 = nI nr ∧ S2 = (T3, ad3, cO D ad3 (stC τ nr b a x2 x3 x4 x5))) ∨ (r2 = -70 ∧ S2 = (T2, ad2, cO D ad2 τ) ∧ ∃ E : String, (E = sIOB ∧ ¬ (0 ≤ nI b0 ∧ nI b0 < nI np)) ∨ (E = sIAE ∧ (0 ≤ nI b0 ∧ nI b0 < nI np) ∧ ¬ ((12 ≤ x2 ∧ x2 ≤ 9999) ∧ (0 ≤ x3 ∧ x3 ≤ 9) ∧ (0 ≤ x4 ∧ x4 ≤ 9) ∧ (0 ≤ x5 ∧ x5 ≤ 4095))) ∨ (E = sISE ∧ (0 ≤ nI b0 ∧ nI b0 < nI np) ∧ ((12 ≤ x2 ∧ x2 ≤ 9999) ∧ (0 ≤ x3 ∧ x3 ≤ 9) ∧ (0 ≤ x4 ∧ x4 ≤ 9) ∧ (0 ≤ x5 ∧ x5 ≤ 4095)) ∧ ¬ nr < 40))) : ∃ (T3 : List Nat) (ad3 : Nat → Nat) (a : Nat), a < 4 ∧ τ 1 b0 = nI a ∧ TG (nr + 1) ng T3 ∧ (∀ k, k ∈ T2 → ad3 k = ad2 k) ∧ r2 = nI nr ∧ S2 = (T3, ad3, cO D ad3 (stC τ nr b0 a x2 x3 x4 x5)) := by
  rcases h1 with ⟨T3, ad3, b, a, ⟨g1, g2, g3, g4, -, -⟩, g5, g6, g7, g8⟩ | ⟨-, -, E, ⟨-, g⟩ | ⟨-, -, g⟩ | ⟨-, -, -, g⟩⟩
  · rw [nI_eq (by omega) (by omega)] at g2
    subst g2
    exact ⟨T3, ad3, a, g3, g4, g5, g6, g7, g8⟩
  · exact absurd (ix_in hb (by omega)) g
  · exact absurd hrg g
  · exact absurd hn g
theorem W_cut (h : J nr ng np nb C π σ τ) (h1 : ((∃ (T3 : List Nat) (ad3 : Nat → Nat) (i0 : Nat), (i0 < nr ∧ x = nI i0 ∧ (¬ σ 28 i0 = 1 ∧ ¬ σ 28 i0 = 3) ∧ ng + pcN (σ 26 i0) 12 ≤ 80) ∧ TG nr (ng + pcN (σ 26 i0) 12) T3 ∧ (∀ k, k ∈ T1 → ad3 k = ad1 k) ∧ r1 = nI (pcN (σ 26 i0) 12) ∧ S1 = (T3, ad3, cO D ad3 (cutC σ ng i0))) ∨ (r1 = -70 ∧ S1 = (T1, ad1, cO D ad1 σ) ∧ ∃ E : String, (E = sIOB ∧ ¬ (0 ≤ x ∧ x < nI nr)) ∨ (E = sISE ∧ (0 ≤ x ∧ x < nI nr) ∧ ∃ i0, i0 < nr ∧ x = nI i0 ∧ ¬ ((¬ σ 28 i0 = 1 ∧ ¬ σ 28 i0 = 3) ∧ ng + pcN (σ 26 i0) 12 ≤ 80))))) (h2 : ((∃ (T3 : List Nat) (ad3 : Nat → Nat) (i0 : Nat), (i0 < nr ∧ x = nI i0 ∧ (¬ τ 28 i0 = 1 ∧ ¬ τ 28 i0 = 3) ∧ ng + pcN (τ 26 i0) 12 ≤ 80) ∧ TG nr (ng + pcN (τ 26 i0) 12) T3 ∧ (∀ k, k ∈ T2 → ad3 k = ad2 k) ∧ r2 = nI (pcN (τ 26 i0) 12) ∧ S2 = (T3, ad3, cO D ad3 (cutC τ ng i0))) ∨ (r2 = -70 ∧ S2 = (T2, ad2, cO D ad2 τ) ∧ ∃ E : String, (E = sIOB ∧ ¬ (0 ≤ x ∧ x < nI nr)) ∨ (E = sISE ∧ (0 ≤ x ∧ x < nI nr) ∧ ∃ i0, i0 < nr ∧ x = nI i0 ∧ ¬ ((¬ τ 28 i0 = 1 ∧ ¬ τ 28 i0 = 3) ∧ ng + pcN (τ 26 i0) 12 ≤ 80))))) : (r1 = -70 ∧ r2 = -70 ∧ S1 = (T1, ad1, cO D ad1 σ) ∧ S2 = (T2, ad2, cO D ad2 τ)) ∨ ∃ (pc : Nat) (T3 : List Nat) (ad3 : Nat → Nat) (σ3 : Mm) (T4 : List Nat) (ad4 : Nat → Nat) (τ3 : Mm) (C3 : Nat → Prop), pc ≤ 4 ∧ r1 = nI pc ∧ r2 = nI pc ∧ S1 = (T3, ad3, cO D ad3 σ3) ∧ S2 = (T4, ad4, cO D ad4 τ3) ∧ TG nr (ng + pc) T3 ∧ TG nr (ng + pc) T4 ∧ (∀ k, k ∈ T1 → ad3 k = ad1 k) ∧ (∀ k, k ∈ T2 → ad4 k = ad2 k) ∧ J nr (ng + pc) np nb C3 (fun k => if k < ng then π k else 2 * ng + pc - 1 - k) σ3 τ3 := by
  have e := h.2.1
  have hn := h.2.2.2.2.2.2
  have hng := h.ng56
  have e28 := e 28 (by decide) (by decide)
  rcases h1 with ⟨T3, ad3, i, ⟨hi, rfl, hs, hle⟩, hT3, had3, rfl, rfl⟩ | ⟨rfl, rfl, E1, g1⟩
  · obtain ⟨pc, p1, p2, p3, hJ⟩ := J_cut h hi hs.1 hs.2
    rw [p1] at hT3 hle ⊢
    rcases h2 with ⟨T4, ad4, i2, ⟨hi2, ei, hs2, hle2⟩, hT4, had4, rfl, rfl⟩ | ⟨-, -, E, g⟩
    · rw [nI_eq (by omega) (by omega)] at ei
      subst ei
      rw [p2] at hT4 ⊢
      exact Or.inr ⟨pc, T3, ad3, _, T4, ad4, _, _, p3, rfl, rfl, rfl, rfl, hT3, hT4, had3, had4, hJ⟩
    · exfalso
      rcases g with ⟨-, g⟩ | ⟨-, -, i2, hi2, ei, g⟩
      · exact absurd (ix_in hi (by omega)) g
      · rw [nI_eq (by omega) (by omega)] at ei
        subst ei
        rw [e28, p2] at g
        exact g ⟨hs, hle⟩
  · rcases h2 with ⟨T4, ad4, i, ⟨hi, rfl, hs, hle⟩, hT4, had4, rfl, rfl⟩ | ⟨rfl, rfl, E2, g2⟩
    · exfalso
      rw [e28] at hs
      obtain ⟨pc, p1, p2, p3, hJ⟩ := J_cut h hi hs.1 hs.2
      rw [p2] at hle
      rcases g1 with ⟨-, g⟩ | ⟨-, -, i2, hi2, ei, g⟩
      · exact absurd (ix_in hi (by omega)) g
      · rw [nI_eq (by omega) (by omega)] at ei
        subst ei
        rw [p1] at g
        exact g ⟨hs, hle⟩
    · exact Or.inl ⟨rfl, rfl, rfl, rfl⟩
end TWO

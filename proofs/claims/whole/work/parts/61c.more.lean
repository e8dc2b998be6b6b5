/-! ===== more for the four long steps ===== -/
theorem cmM_cg3 {σ τ : Mm} (x : Int32) : ∀ n, (∀ s, s < n → pitM τ s = pitM σ s ∧ τ 65 s = σ 65 s) → cmM τ x n = cmM σ x n
  | 0, _ => rfl
  | n + 1, h => by rw [cmM, cmM, cmM_cg3 x n (fun s hs => h s (by omega)), (h n (by omega)).1, (h n (by omega)).2]

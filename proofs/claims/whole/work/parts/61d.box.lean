/-! ===== the filling of the boxes ===== -/
def FJ (nr m : Nat) (σ A B : Mm) : Prop := (A 28 = B 69 ∧ A 30 = B 71 ∧ A 8 = B 79) ∧ (∀ i, i < nr → (A 28 i = 1 ∧ ¬ A 30 i = -1 ∧ σ 29 i = -1) ∨ (A 28 i = 0 ∧ A 30 i = -1 ∧ σ 29 i = -1) ∨ ((A 28 i = 2 ∨ A 28 i = 3) ∧ A 30 i = -1)) ∧ (∀ i, nr ≤ i → A 28 i = 0) ∧ (A 9 1 = σ 9 1 ∧ ((A 9 0 = 0 ∧ B 60 23 = -1) ∨ ∃ i, i < nr ∧ A 9 0 = nI (i + 1) ∧ B 60 23 = nI i ∧ A 28 i = 0)) ∧ (∀ r, (0 < r ∧ r < 7 ∨ 9 < r ∧ r < 28 ∨ r = 29 ∨ 30 < r ∧ r < 60) → A r = σ r) ∧ A 0 9 = nI m ∧ (∀ r, (60 < r ∧ r < 69 ∨ r = 70 ∨ 71 < r ∧ r < 79 ∨ 81 < r ∧ r < 99) → B r = σ r)
section FILL
variable {nr m : Nat} {σ A B : Mm}
theorem FJ_val (hv : ∀ i, valC σ i = valM σ i) (h : FJ nr m σ A B) (i : Nat) : valC A i = valM B i := by
  obtain ⟨-, -, -, -, hA, -, hB⟩ := h
  have h1 : valC A i = valC σ i := by
    unfold valC qualC
    rw [hA 23 (by omega), hA 33 (by omega), hA 34 (by omega), hA 35 (by omega), hA 36 (by omega), hA 5 (by omega)]
  have h2 : valM B i = valM σ i := by
    unfold valM qualM
    rw [hB 65 (by omega), hB 73 (by omega), hB 74 (by omega), hB 77 (by omega)]
  rw [h1, h2, hv]
theorem FJ_can (a33 : σ 33 = σ 73) (hRB : RB σ) (h : FJ nr m σ A B) (i : Nat) : canC A i ↔ canM B i := by
  obtain ⟨⟨h28, -, -⟩, -, -, -, hA, -, hB⟩ := h
  obtain ⟨g1, g2, -⟩ := hRB.1 i
  unfold canC canM dblC dblM
  rw [h28, hA 33 (by omega), hA 34 (by omega), hA 35 (by omega), hB 73 (by omega), hB 74 (by omega), a33, g1, g2]
theorem FJ_de (a33 : σ 33 = σ 73) (hRB : RB σ) (hv : ∀ i, valC σ i = valM σ i) (hp : PRs nr σ) (hz : ∀ i, nr ≤ i → σ 2 i = 0) (hnr : nr ≤ 40) (h : FJ nr m σ A B) : ∀ k, k ≤ 40 → (deC A k = none ∧ deM B (Nat.min k nr) = -1) ∨ ∃ d, d < nr ∧ deC A k = some d ∧ deM B (Nat.min k nr) = nI d
  | 0, _ => Or.inl ⟨rfl, by rw [show Nat.min 0 nr = 0 from Nat.zero_min nr]; rfl⟩
  | k + 1, hk => by
    have ih := FJ_de a33 hRB hv hp hz hnr h k (by omega)
    have h2 : A 2 = σ 2 := h.2.2.2.2.1 2 (by omega)
    by_cases q : k < nr
    · rw [show Nat.min (k + 1) nr = k + 1 from Nat.min_eq_left (by omega)]
      rw [show Nat.min k nr = k from Nat.min_eq_left (by omega)] at ih
      have hc := FJ_can a33 hRB h k
      have h3 : ¬ A 2 k = 0 := by rw [h2]; exact (hp k (by omega)).mpr q
      rw [deC, deM]
      rcases ih with ⟨e1, e2⟩ | ⟨d, hd, e1, e2⟩
      · rw [e1, e2]
        by_cases g : canC A k
        · rw [iF_t ⟨h3, g, fun d hd => absurd hd (by simp)⟩, iF_t ⟨hc.mp g, Or.inl rfl⟩]
          exact Or.inr ⟨k, q, rfl, rfl⟩
        · rw [iF_f (fun z => g z.2.1), iF_f (fun z => g (hc.mpr z.1))]
          exact Or.inl ⟨rfl, rfl⟩
      · rw [e1, e2, nI_clamp (by omega)]
        by_cases g : canC A k ∧ valC A d < valC A k
        · rw [iF_t ⟨h3, g.1, fun d2 hd2 => by rw [← Option.some.inj hd2]; exact g.2⟩, iF_t ⟨hc.mp g.1, Or.inr (by rw [← FJ_val hv h, ← FJ_val hv h]; exact g.2)⟩]
          exact Or.inr ⟨k, q, rfl, rfl⟩
        · rw [iF_f (fun z => g ⟨z.2.1, z.2.2 d rfl⟩), iF_f (fun z => g ⟨hc.mpr z.1, by
            rcases z.2 with y | y
            · exact absurd y (nI_nem1 (by omega))
            · rw [← FJ_val hv h, ← FJ_val hv h] at y; exact y⟩)]
          exact Or.inr ⟨d, hd, rfl, rfl⟩
    · rw [show Nat.min (k + 1) nr = nr from Nat.min_eq_right (by omega)]
      rw [show Nat.min k nr = nr from Nat.min_eq_right (by omega)] at ih
      rw [deC, iF_f (fun z => z.1 (by rw [h2]; exact hz k (by omega)))]
      exact ih
theorem pb_eq (h : A 8 = B 79) : ∀ k, pbC A k = pbM B k
  | 0 => rfl
  | k + 1 => by rw [pbC, pbM, pb_eq h k, h]
theorem FJ_step {i : Nat} (hi : i < nr) (hnr : nr ≤ 40) (hm : m ≤ 5) (hv : ∀ i, valC σ i = valM σ i) (hcan : A 28 i = 0) (h : FJ nr m σ A B) : FJ nr m σ (stepC A i) (stepM B m i) := by
  have hval := FJ_val hv h i
  obtain ⟨⟨h28, h30, h8⟩, hF, hE, ⟨h91, h90⟩, hA, h09, hB⟩ := h
  have hn : nbN A = m := by unfold nbN; rw [h09, nI_clamp (by omega)]
  have hpb : pbC A (nbN A - 1) = pbM B (m - 1) := by rw [hn]; exact pb_eq h8 _
  have hple := pbM_le B (m - 1)
  obtain ⟨p, hpe⟩ : ∃ p, p = pbM B (m - 1) := ⟨_, rfl⟩
  have c28 : stepC A i 28 = upd (A 28) i 1 := by unfold stepC; rw [endT_r _ _ (by decide)]; rfl
  have c30 : stepC A i 30 = upd (A 30) i (nI p) := by unfold stepC; rw [endT_r _ _ (by decide), hpb, ← hpe]; rfl
  have c8 : stepC A i 8 = upd (A 8) p (A 8 p + valC A i) := by unfold stepC; rw [endT_r _ _ (by decide), hpb, ← hpe]; rfl
  have m69 : stepM B m i 69 = upd (B 69) i 1 := by unfold stepM endM; rfl
  have m71 : stepM B m i 71 = upd (B 71) i (nI p) := by unfold stepM endM; rw [← hpe]; rfl
  have m79 : stepM B m i 79 = upd (B 79) p (B 79 p + valM B i) := by unfold stepM endM; rw [← hpe]; rfl
  have m23 : stepM B m i 60 23 = iF (B 60 23 = nI i) (-1) (B 60 23) := by unfold stepM endM; rfl
  have c9 : stepC A i 9 = iF (A 9 0 = nI (i + 1)) (upd (A 9) 0 0) (A 9) := by
    unfold stepC
    obtain ⟨τ, hτ⟩ : ∃ τ, τ = up (up (up A 8 (pbC A (nbN A - 1)) (A 8 (pbC A (nbN A - 1)) + valC A i)) 28 i 1) 30 i (nI (pbC A (nbN A - 1))) := ⟨_, rfl⟩
    have e9 : τ 9 = A 9 := by rw [hτ]; rfl
    rw [← hτ, ← e9]
    by_cases q : τ 9 0 = nI (i + 1)
    · rw [endT, iF_t q, iF_t q]; rfl
    · rw [endT, iF_f q, iF_f q]
  refine ⟨⟨?_, ?_, ?_⟩, fun j hj => ?_, fun j hj => ?_, ⟨?_, ?_⟩, fun r hr => ?_, ?_, fun r hr => ?_⟩
  · rw [c28, m69, h28]
  · rw [c30, m71, h30]
  · rw [c8, m79, h8, hval]
  · rw [c28, c30]
    by_cases e : j = i
    · subst e
      rw [pk_us, pk_us]
      refine Or.inl ⟨rfl, nI_nem1 (by omega), ?_⟩
      rcases hF j hj with q | q | q
      · rw [hcan] at q; exact absurd q.1 (by decide)
      · exact q.2.2
      · rw [hcan] at q; exact absurd q.1 (by decide)
    · rw [pk_un e, pk_un e]; exact hF j hj
  · rw [c28, pk_un (by omega)]; exact hE j hj
  · rw [c9]
    by_cases q : A 9 0 = nI (i + 1)
    · rw [iF_t q]; exact h91
    · rw [iF_f q]; exact h91
  · rw [c9, m23, c28]
    rcases h90 with ⟨g1, g2⟩ | ⟨q, hq, g1, g2, g3⟩
    · rw [iF_f (by rw [g1]; exact fun z => nI_ne0 (Nat.succ_pos i) (by omega) z.symm), iF_f (by rw [g2]; exact fun z => nI_nem1 (by omega) z.symm)]
      exact Or.inl ⟨g1, g2⟩
    · by_cases e : q = i
      · subst e
        rw [iF_t g1, iF_t g2]; exact Or.inl ⟨rfl, rfl⟩
      · rw [iF_f (by rw [g1]; exact fun z => e (by
          have := (nI_eq (by omega) (by omega)).mp z
          omega)), iF_f (by rw [g2]; exact fun z => e ((nI_eq (by omega) (by omega)).mp z))]
        exact Or.inr ⟨q, hq, g1, g2, by rw [pk_un e]; exact g3⟩
  · rw [stepC_r A i (by omega) (by omega) (by omega) (by omega)]; exact hA r hr
  · rw [stepC_r A i (by decide) (by decide) (by decide) (by decide)]; exact h09
  · rw [stepM_r B m i (by omega) (by omega) (by omega) (by omega)]; exact hB r hr
end FILL
theorem FJ_fill {nr m : Nat} {σ : Mm} (a33 : σ 33 = σ 73) (hRB : RB σ) (hv : ∀ i, valC σ i = valM σ i) (hp : PRs nr σ) (hz : ∀ i, nr ≤ i → σ 2 i = 0) (hnr : nr ≤ 40) (hm : m ≤ 5) : ∀ (f : Nat) (A B : Mm), FJ nr m σ A B → FJ nr m σ (fillG f A) (fiM nr m f B) ∧ fillN f A = fiN nr m f B
  | 0, A, B, h => ⟨h, rfl⟩
  | f + 1, A, B, h => by
    have hd := FJ_de a33 hRB hv hp hz hnr h 40 (Nat.le_refl _)
    rw [show Nat.min 40 nr = nr from Nat.min_eq_right hnr] at hd
    rcases hd with ⟨e1, e2⟩ | ⟨d, hdn, e1, e2⟩
    · rw [fillG_n _ e1, fillN_n _ e1, fiM_n e2, fiN_n e2]; exact ⟨h, rfl⟩
    · rw [fillG_s _ e1, fillN_s _ e1, fiM, fiN, iF_f (by rw [e2]; exact nI_nem1 (by omega)), iF_f (by rw [e2]; exact nI_nem1 (by omega)), e2, nI_clamp (by omega)]
      have hc := deM_can B nr d e2 (by omega) (by omega)
      have h2 := FJ_fill a33 hRB hv hp hz hnr hm f (stepC A d) (stepM B m d) (FJ_step hdn hnr hm hv (((FJ_can a33 hRB h d).mpr hc).1) h)
      exact ⟨h2.1, by rw [h2.2]⟩
/-! ===== ranks ===== -/
noncomputable def cntP (P : Nat → Prop) : Nat → Nat
  | 0 => 0
  | k + 1 => iF (P k) (cntP P k + 1) (cntP P k)
theorem cntP_le {P Q : Nat → Prop} (h : ∀ k, P k → Q k) : ∀ n, cntP P n ≤ cntP Q n
  | 0 => Nat.le_refl 0
  | n + 1 => by
    have ih := cntP_le h n
    rw [cntP, cntP]
    by_cases p : P n
    · rw [iF_t p, iF_t (h n p)]; omega
    · rw [iF_f p]
      rcases iF_or (P := Q n) (a := cntP Q n + 1) (b := cntP Q n) with g | g <;> rw [g] <;> omega
theorem cntP_lt {P Q : Nat → Prop} (h : ∀ k, P k → Q k) {a : Nat} (ha : Q a) (hb : ¬ P a) : ∀ n, a < n → cntP P n < cntP Q n
  | 0, h0 => absurd h0 (by omega)
  | n + 1, h0 => by
    rw [cntP, cntP]
    by_cases e : a = n
    · subst e
      have := cntP_le h a
      rw [iF_f hb, iF_t ha]; omega
    · have ih := cntP_lt h ha hb n (by omega)
      by_cases p : P n
      · rw [iF_t p, iF_t (h n p)]; omega
      · rw [iF_f p]
        rcases iF_or (P := Q n) (a := cntP Q n + 1) (b := cntP Q n) with g | g <;> rw [g] <;> omega
theorem cntP_T : ∀ n, cntP (fun _ => True) n = n
  | 0 => rfl
  | n + 1 => by rw [cntP, iF_t trivial, cntP_T n]
/-- k stands before b -/
def bfR (h : Nat → Int32) (b k : Nat) : Prop := h b < h k ∨ (h k = h b ∧ k < b)
theorem rkM_c (σ : Mm) (b : Nat) : ∀ n, rkM σ b n = cntP (bfR (σ 82) b) n
  | 0 => rfl
  | n + 1 => by rw [rkM, cntP, rkM_c σ b n]; rfl
theorem bxM_c (σ : Mm) (b : Nat) : ∀ n, bxM σ b n = cntP (bfR (σ 79) b) n
  | 0 => rfl
  | n + 1 => by rw [bxM, cntP, bxM_c σ b n]; rfl
theorem bf_tot {h : Nat → Int32} {a b : Nat} (e : a ≠ b) : bfR h b a ∨ bfR h a b := by
  unfold bfR
  rcases Int.lt_trichotomy (h a).toInt (h b).toInt with g | g | g
  · exact Or.inr (Or.inl (Int32.lt_iff_toInt_lt.mpr g))
  · have g2 := Int32.toInt_inj.mp g
    rcases Nat.lt_or_gt_of_ne e with q | q
    · exact Or.inl (Or.inr ⟨g2, q⟩)
    · exact Or.inr (Or.inr ⟨g2.symm, q⟩)
  · exact Or.inl (Or.inl (Int32.lt_iff_toInt_lt.mpr g))
theorem bf_irr {h : Nat → Int32} {a : Nat} : ¬ bfR h a a := by
  rintro (g | g)
  · exact absurd (Int32.lt_iff_toInt_lt.mp g) (by omega)
  · exact absurd g.2 (by omega)
theorem bf_tr {h : Nat → Int32} {a b c : Nat} (h1 : bfR h b a) (h2 : bfR h c b) : bfR h c a := by
  unfold bfR at h1 h2 ⊢
  rw [Int32.lt_iff_toInt_lt, ← Int32.toInt_inj] at h1 h2 ⊢
  omega
theorem rk_lt {h : Nat → Int32} {b n : Nat} (hb : b < n) : cntP (bfR h b) n < n := by
  have := cntP_lt (P := bfR h b) (Q := fun _ => True) (fun _ _ => trivial) (a := b) trivial bf_irr n hb
  rwa [cntP_T] at this
theorem rk_mono {h : Nat → Int32} {a b n : Nat} (ha : a < n) (hab : bfR h b a) : cntP (bfR h a) n < cntP (bfR h b) n := cntP_lt (P := bfR h a) (Q := bfR h b) (fun _ hk => bf_tr hk hab) hab bf_irr n ha
theorem rk_inj {h : Nat → Int32} {a b n : Nat} (ha : a < n) (hb : b < n) (e : cntP (bfR h a) n = cntP (bfR h b) n) : a = b := by
  by_cases q : a = b
  · exact q
  · rcases bf_tot (h := h) q with g | g
    · have := rk_mono ha g; omega
    · have := rk_mono hb g; omega
theorem rk_bf {h : Nat → Int32} {a b n : Nat} (ha : a < n) (hb : b < n) (e : cntP (bfR h a) n < cntP (bfR h b) n) : bfR h b a := by
  have q : a ≠ b := fun z => by rw [z] at e; omega
  rcases bf_tot (h := h) q with g | g
  · exact g
  · have := rk_mono hb g; omega
theorem inj_surj : ∀ (n : Nat) (f : Nat → Nat), (∀ i, i < n → f i < n) → (∀ i j, i < n → j < n → f i = f j → i = j) → ∀ t, t < n → ∃ i, i < n ∧ f i = t
  | 0, _, _, _, t, ht => absurd ht (by omega)
  | n + 1, f, hf, hinj, t, ht => by
    have hs := inj_surj n (fun i => if f i = n then f n else f i) (fun i hi => by
      show (if f i = n then f n else f i) < n
      by_cases q : f i = n
      · rw [if_pos q]
        have h1 := hf n (by omega)
        have h2 : f n ≠ n := fun z => by
          have := hinj i n (by omega) (by omega) (by omega)
          omega
        omega
      · rw [if_neg q]
        have := hf i (by omega)
        omega) (fun i j hi hj e => by
      have e2 : (if f i = n then f n else f i) = (if f j = n then f n else f j) := e
      by_cases q : f i = n
      · by_cases g : f j = n
        · exact hinj i j (by omega) (by omega) (by omega)
        · rw [if_pos q, if_neg g] at e2
          have := hinj n j (by omega) (by omega) e2
          omega
      · by_cases g : f j = n
        · rw [if_neg q, if_pos g] at e2
          have := hinj i n (by omega) (by omega) e2
          omega
        · rw [if_neg q, if_neg g] at e2
          exact hinj i j (by omega) (by omega) e2)
    by_cases e : t = f n
    · exact ⟨n, by omega, e.symm⟩
    · by_cases g : t = n
      · obtain ⟨i, hi, h2⟩ := hs (f n) (by have := hf n (by omega); omega)
        have h3 : (if f i = n then f n else f i) = f n := h2
        by_cases q : f i = n
        · exact ⟨i, by omega, by omega⟩
        · rw [if_neg q] at h3
          have := hinj i n (by omega) (by omega) h3
          omega
      · obtain ⟨i, hi, h2⟩ := hs t (by omega)
        have h3 : (if f i = n then f n else f i) = t := h2
        by_cases q : f i = n
        · rw [if_pos q] at h3; exact absurd h3.symm e
        · rw [if_neg q] at h3; exact ⟨i, by omega, h3⟩
theorem rk_surj {h : Nat → Int32} {n t : Nat} (ht : t < n) : ∃ b, b < n ∧ cntP (bfR h b) n = t := inj_surj n (fun b => cntP (bfR h b) n) (fun _ hb => rk_lt hb) (fun _ _ ha hb e => rk_inj ha hb e) t ht
/-- the best of those that are asked -/
noncomputable def amF (Q : Nat → Prop) (h : Nat → Int32) : Nat → Int32
  | 0 => -1
  | k + 1 => iF (Q k ∧ (amF Q h k = -1 ∨ h (amF Q h k).toNatClampNeg < h k)) (nI k) (amF Q h k)
theorem amF_or (Q : Nat → Prop) (h : Nat → Int32) : ∀ k, k < 2 ^ 31 → (amF Q h k = -1 ∧ ∀ b, b < k → ¬ Q b) ∨ ∃ j, j < k ∧ amF Q h k = nI j ∧ Q j ∧ ∀ b, b < k → Q b → b ≠ j → bfR h b j
  | 0, _ => Or.inl ⟨rfl, fun b hb => absurd hb (by omega)⟩
  | k + 1, hk => by
    rw [amF]
    rcases amF_or Q h k (by omega) with ⟨e, hn⟩ | ⟨j, hj, e, hQ, hall⟩
    · rw [e]
      by_cases q : Q k
      · rw [iF_t ⟨q, Or.inl rfl⟩]
        exact Or.inr ⟨k, by omega, rfl, q, fun b hb hQb hne => absurd hQb (hn b (by omega))⟩
      · rw [iF_f (fun z => q z.1)]
        refine Or.inl ⟨rfl, fun b hb => ?_⟩
        rcases (show b < k ∨ b = k by omega) with g | g
        · exact hn b g
        · rw [g]; exact q
    · rw [e, nI_clamp (by omega)]
      by_cases q : Q k ∧ h j < h k
      · rw [iF_t ⟨q.1, Or.inr q.2⟩]
        refine Or.inr ⟨k, by omega, rfl, q.1, fun b hb hQb hne => ?_⟩
        by_cases g : b = j
        · subst g; exact Or.inl q.2
        · exact bf_tr (Or.inl q.2 : bfR h j k) (hall b (by omega) hQb g)
      · rw [iF_f (fun z => q ⟨z.1, z.2.resolve_left (nI_nem1 (by omega))⟩)]
        refine Or.inr ⟨j, by omega, rfl, hQ, fun b hb hQb hne => ?_⟩
        rcases (show b < k ∨ b = k by omega) with g | g
        · exact hall b g hQb hne
        · subst g
          rcases bf_tot (h := h) (a := j) (b := b) (Ne.symm hne) with y | y
          · exact y
          · rcases y with y | y
            · exact absurd ⟨hQb, y⟩ q
            · exact absurd y.2 (by omega)
theorem amF_at {Q : Nat → Prop} {h : Nat → Int32} {n p : Nat} (hn : n < 2 ^ 31) (hp : p < n) (hQ : Q p) (hb : ∀ b, b < n → Q b → b ≠ p → bfR h b p) : amF Q h n = nI p := by
  rcases amF_or Q h n hn with ⟨-, g⟩ | ⟨j, hj, e, hQj, hall⟩
  · exact absurd hQ (g p hp)
  · by_cases q : j = p
    · rw [e, q]
    · exact absurd (bf_tr (hb j hj hQj q) (hall p hp hQ (Ne.symm q))) bf_irr
theorem bfC_c (σ : Mm) : ∀ n, bfC σ n = amF (fun b => σ 7 b = -1) (σ 6) n
  | 0 => rfl
  | n + 1 => by rw [bfC, amF, bfC_c σ n]
theorem rfC_c (σ : Mm) : ∀ n, rfC σ n = amF (fun a => ¬ offd σ (nI a)) (σ 8) n
  | 0 => rfl
  | n + 1 => by rw [rfC, amF, rfC_c σ n]
/-- after t offers -/
theorem off_G {m : Nat} {A : Mm} (hm : m ≤ 5) (h09 : A 0 9 = nI m) (h7 : ∀ b, b < 5 → A 7 b = -1) : ∀ t, t ≤ m → ∀ b, (b < 5 → (cntP (bfR (A 6) b) 5 < t → ∃ a, a < m ∧ cntP (bfR (A 8) a) m = cntP (bfR (A 6) b) 5 ∧ offG A t 7 b = nI a) ∧ (¬ cntP (bfR (A 6) b) 5 < t → offG A t 7 b = -1)) ∧ (5 ≤ b → offG A t 7 b = A 7 b)
  | 0, _ => fun b => ⟨fun hb => ⟨fun z => absurd z (by omega), fun _ => h7 b hb⟩, fun _ => rfl⟩
  | t + 1, ht => by
    have ih := off_G hm h09 h7 t (by omega)
    have r6 : offG A t 6 = A 6 := offG_r A (by decide) t
    have r8 : offG A t 8 = A 8 := offG_r A (by decide) t
    have r0 : offG A t 0 = A 0 := offG_r A (by decide) t
    rw [offG]
    obtain ⟨τ, hτ⟩ : ∃ τ, offG A t = τ := ⟨_, rfl⟩
    rw [hτ] at ih r6 r8 r0 ⊢
    obtain ⟨p, hp5, hp⟩ := rk_surj (h := A 6) (n := 5) (t := t) (by omega)
    obtain ⟨a, ham, ha⟩ := rk_surj (h := A 8) (n := m) (t := t) (by omega)
    have eb : bfC τ 5 = nI p := by
      rw [bfC_c]
      refine amF_at (by decide) hp5 (((ih p).1 hp5).2 (by omega)) (fun b hb hQ hne => ?_)
      rw [r6]
      refine rk_bf (n := 5) hp5 hb ?_
      rcases (show cntP (bfR (A 6) b) 5 < t ∨ cntP (bfR (A 6) b) 5 = t ∨ t < cntP (bfR (A 6) b) 5 by omega) with g | g | g
      · obtain ⟨a2, h1, h2, h3⟩ := ((ih b).1 hb).1 g
        exact absurd (h3.symm.trans hQ) (nI_nem1 (by omega))
      · exact absurd (rk_inj hb hp5 (g.trans hp.symm)) hne
      · omega
    have hoff : ∀ x, x < m → (offd τ (nI x) ↔ cntP (bfR (A 8) x) m < t) := fun x hx => by
      constructor
      · rintro ⟨b, hb, h⟩
        by_cases g : cntP (bfR (A 6) b) 5 < t
        · obtain ⟨a2, h1, h2, h3⟩ := ((ih b).1 hb).1 g
          have e := (nI_eq (by omega) (by omega)).mp (h3.symm.trans h)
          subst e
          omega
        · exact absurd (h.symm.trans (((ih b).1 hb).2 g)) (nI_nem1 (by omega))
      · intro g
        obtain ⟨b, hb, h⟩ := rk_surj (h := A 6) (n := 5) (t := cntP (bfR (A 8) x) m) (by omega)
        obtain ⟨a2, h1, h2, h3⟩ := ((ih b).1 hb).1 (by omega)
        have e := rk_inj h1 hx (h2.trans h)
        subst e
        exact ⟨b, hb, h3⟩
    have er : rfC τ (nbN τ) = nI a := by
      have hn : nbN τ = m := by unfold nbN; rw [r0, h09, nI_clamp (by omega)]
      rw [hn, rfC_c]
      refine amF_at (by omega) ham (fun z => absurd ((hoff a ham).mp z) (by omega)) (fun b hb hQ hne => ?_)
      rw [r8]
      refine rk_bf (n := m) ham hb ?_
      have h1 : ¬ cntP (bfR (A 8) b) m < t := fun z => hQ ((hoff b hb).mpr z)
      have h2 : cntP (bfR (A 8) b) m ≠ t := fun z => hne (rk_inj hb ham (z.trans ha.symm))
      omega
    have es : stepO τ = up τ 7 p (nI a) := by
      unfold stepO
      rw [eb, er, iF_f (nI_nem1 (by omega)), nI_clamp (by omega)]
    rw [es]
    intro b
    rw [show up τ 7 p (nI a) 7 = upd (τ 7) p (nI a) from up_eq]
    by_cases e : b = p
    · subst e
      rw [pk_us]
      refine ⟨fun _ => ⟨fun _ => ⟨a, ham, by omega, rfl⟩, fun z => absurd z (by omega)⟩, fun z => absurd z (by omega)⟩
    · rw [pk_un e]
      refine ⟨fun hb => ?_, (ih b).2⟩
      have h2 : cntP (bfR (A 6) b) 5 ≠ t := fun z => e (rk_inj hb hp5 (z.trans hp.symm))
      exact ⟨fun z => ((ih b).1 hb).1 (by omega), fun z => ((ih b).1 hb).2 (by omega)⟩
/-- what the reference offers -/
theorem ofM_at (σ : Mm) {m : Nat} (hm : m ≤ 5) : ∀ k, k ≤ 5 → ∀ b, (b < k → ofM σ m k 81 b = fsF (fun a => nI (cntP (bfR (σ 79) a) m) = nI (cntP (bfR (σ 82) b) 5)) m) ∧ (k ≤ b → ofM σ m k 81 b = σ 81 b)
  | 0, _ => fun b => ⟨fun z => absurd z (by omega), fun _ => rfl⟩
  | k + 1, hk => fun b => by
    have ih := ofM_at σ hm k (by omega) b
    have r82 : ofM σ m k 82 = σ 82 := ofM_r σ m (by decide) k
    have r79 : ofM σ m k 79 = σ 79 := ofM_r σ m (by decide) k
    rw [ofM, up_eq]
    by_cases e : b = k
    · subst e
      rw [pk_us]
      refine ⟨fun _ => ?_, fun z => absurd z (by omega)⟩
      have e2 : (fun a => nI (bxM (ofM σ m b) a m) = nI (rkM (ofM σ m b) b 5)) = (fun a => nI (cntP (bfR (σ 79) a) m) = nI (cntP (bfR (σ 82) b) 5)) := funext (fun a => by rw [bxM_c, rkM_c, r79, r82])
      rw [e2]
    · rw [pk_un e]
      exact ⟨fun z => ih.1 (by omega), fun z => ih.2 (by omega)⟩
theorem off_eq {m : Nat} {A B : Mm} (hm : m ≤ 5) (h09 : A 0 9 = nI m) (h7 : ∀ b, b < 5 → A 7 b = -1) (h75 : ∀ b, 5 ≤ b → A 7 b = B 81 b) (h6 : A 6 = B 82) (h8 : A 8 = B 79) : offG A m 7 = ofM B m 5 81 := by
  funext b
  obtain ⟨g1, g2⟩ := off_G hm h09 h7 m (Nat.le_refl _) b
  obtain ⟨k1, k2⟩ := ofM_at B hm 5 (Nat.le_refl _) b
  rcases (show b < 5 ∨ 5 ≤ b by omega) with hb | hb
  · rw [k1 hb, ← h6, ← h8]
    by_cases q : cntP (bfR (A 6) b) 5 < m
    · obtain ⟨a, ha, ha2, ha3⟩ := (g1 hb).1 q
      rw [ha3]
      refine (fsF_at (j := a) (by rw [ha2]) (fun x hx z => ?_) (by omega) m ha).symm
      have hx2 := rk_lt (h := A 8) (b := x) (n := m) (by omega)
      have e := (nI_eq (by omega) (by omega)).mp z
      have := rk_inj (by omega) ha (e.trans ha2.symm)
      omega
    · rw [(g1 hb).2 q]
      refine (fsF_no m (fun x hx z => ?_)).symm
      have hx2 := rk_lt (h := A 8) (b := x) (n := m) hx
      have hb2 := rk_lt (h := A 6) (b := b) (n := 5) hb
      have e := (nI_eq (by omega) (by omega)).mp z
      omega
  · rw [g2 hb, k2 hb, h75 b hb]
theorem off_RG {m : Nat} {A : Mm} (hm : m ≤ 5) (h09 : A 0 9 = nI m) (h7 : ∀ b, b < 5 → A 7 b = -1) : (∀ b, b < 5 → offG A m 7 b = -1 ∨ ∃ a, a < m ∧ offG A m 7 b = nI a) ∧ (∀ b c, b < 5 → c < 5 → offG A m 7 b = offG A m 7 c → offG A m 7 b = -1 ∨ b = c) ∧ ∀ a, a < m → ∃ b, b < 5 ∧ offG A m 7 b = nI a := by
  have G := off_G hm h09 h7 m (Nat.le_refl _)
  refine ⟨fun b hb => ?_, fun b c hb hc e => ?_, fun a ha => ?_⟩
  · by_cases q : cntP (bfR (A 6) b) 5 < m
    · obtain ⟨a, ha, -, h3⟩ := ((G b).1 hb).1 q
      exact Or.inr ⟨a, ha, h3⟩
    · exact Or.inl (((G b).1 hb).2 q)
  · by_cases q : cntP (bfR (A 6) b) 5 < m
    · obtain ⟨a, ha, h2, h3⟩ := ((G b).1 hb).1 q
      by_cases g : cntP (bfR (A 6) c) 5 < m
      · obtain ⟨a2, ha2, k2, k3⟩ := ((G c).1 hc).1 g
        have e2 := (nI_eq (by omega) (by omega)).mp (h3.symm.trans (e.trans k3))
        subst e2
        exact Or.inr (rk_inj hb hc (h2.symm.trans k2))
      · exact absurd (h3.symm.trans (e.trans (((G c).1 hc).2 g))) (nI_nem1 (by omega))
    · exact Or.inl (((G b).1 hb).2 q)
  · have hr := rk_lt (h := A 8) (b := a) (n := m) ha
    obtain ⟨b, hb, h⟩ := rk_surj (h := A 6) (n := 5) (t := cntP (bfR (A 8) a) m) (by omega)
    obtain ⟨a2, h1, h2, h3⟩ := ((G b).1 hb).1 (by omega)
    have e := rk_inj h1 ha (h2.trans h)
    subst e
    exact ⟨b, hb, h3⟩
theorem fiB_r {nr m r : Nat} (h1 : r ≠ 79) (h2 : r ≠ 69) (h3 : r ≠ 71) (h4 : r ≠ 60) : ∀ (f : Nat) (σ : Mm), fiM nr m f σ r = σ r
  | 0, _ => rfl
  | f + 1, σ => iF_row rfl (by rw [fiB_r h1 h2 h3 h4 f, stepM_r _ _ _ h1 h2 h3 h4])
theorem fiB_0 {nr m j : Nat} (h : j ≠ 23) : ∀ (f : Nat) (σ : Mm), fiM nr m f σ 60 j = σ 60 j
  | 0, _ => rfl
  | f + 1, σ => by
    rw [fiM]
    rcases iF_or (P := deM σ nr = -1) (a := σ) (b := fiM nr m f (stepM σ m (deM σ nr).toNatClampNeg)) with g | g
    · rw [g]
    · rw [g, fiB_0 h f, stepM_0 _ _ _ h]
theorem opC_at {σ : Mm} : ∀ (k i : Nat), ((i < k ∧ ¬ σ 2 i = 0 ∧ σ 28 i = 1) → opC σ k 28 i = 0 ∧ opC σ k 30 i = -1) ∧ (¬ (i < k ∧ ¬ σ 2 i = 0 ∧ σ 28 i = 1) → opC σ k 28 i = σ 28 i ∧ opC σ k 30 i = σ 30 i)
  | 0, i => ⟨fun h => absurd h.1 (by omega), fun _ => ⟨rfl, rfl⟩⟩
  | k + 1, i => by
    obtain ⟨h1, h2⟩ := opC_at (σ := σ) k i
    obtain ⟨k1, k2⟩ := (opC_at (σ := σ) k k).2 (fun z => absurd z.1 (by omega))
    have e2 : opC σ k 2 = σ 2 := opC_r σ (by decide) (by decide) k
    obtain ⟨τ, hτ⟩ : ∃ τ, opC σ k = τ := ⟨_, rfl⟩
    rw [opC]
    rw [hτ] at h1 h2 k1 k2 e2 ⊢
    rw [e2, k1]
    by_cases e : i = k
    · subst e
      refine ⟨fun h => ?_, fun h => ?_⟩
      · rw [iF_t h.2]; exact ⟨pk_us, pk_us⟩
      · rw [iF_f (fun z => h ⟨by omega, z⟩)]; exact ⟨k1, k2⟩
    · have hi : i < k + 1 ↔ i < k := by omega
      rw [hi]
      have hr : ∀ r, (iF (¬ σ 2 k = 0 ∧ σ 28 k = 1) (up (up τ 28 k 0) 30 k (-1)) τ) r i = τ r i := fun r => by
        rcases iF_or (P := (¬ σ 2 k = 0 ∧ σ 28 k = 1)) (a := (up (up τ 28 k 0) 30 k (-1))) (b := τ) with g | g
        · rw [g, up_nj e, up_nj e]
        · rw [g]
      rw [hr 28, hr 30]
      exact ⟨h1, h2⟩
theorem obM_at {σ : Mm} : ∀ (k i : Nat), ((i < k ∧ σ 69 i = 1) → obM σ k 69 i = 0 ∧ obM σ k 71 i = -1) ∧ (¬ (i < k ∧ σ 69 i = 1) → obM σ k 69 i = σ 69 i ∧ obM σ k 71 i = σ 71 i)
  | 0, i => ⟨fun h => absurd h.1 (by omega), fun _ => ⟨rfl, rfl⟩⟩
  | k + 1, i => by
    obtain ⟨h1, h2⟩ := obM_at (σ := σ) k i
    obtain ⟨k1, k2⟩ := (obM_at (σ := σ) k k).2 (fun z => absurd z.1 (by omega))
    obtain ⟨τ, hτ⟩ : ∃ τ, obM σ k = τ := ⟨_, rfl⟩
    rw [obM]
    rw [hτ] at h1 h2 k1 k2 ⊢
    rw [k1]
    by_cases e : i = k
    · subst e
      refine ⟨fun h => ?_, fun h => ?_⟩
      · rw [iF_t h.2]; exact ⟨pk_us, pk_us⟩
      · rw [iF_f (fun z => h ⟨by omega, z⟩)]; exact ⟨k1, k2⟩
    · have hi : i < k + 1 ↔ i < k := by omega
      rw [hi]
      have hr : ∀ r, (iF (σ 69 k = 1) (up (up τ 69 k 0) 71 k (-1)) τ) r i = τ r i := fun r => by
        rcases iF_or (P := (σ 69 k = 1)) (a := (up (up τ 69 k 0) 71 k (-1))) (b := τ) with g | g
        · rw [g, up_nj e, up_nj e]
        · rw [g]
      rw [hr 69, hr 71]
      exact ⟨h1, h2⟩
theorem fillF_at {h : Nat → Int32} {x : Int32} {k b : Nat} (hb : b < k) : fillF h x k b = x := if_pos hb
theorem fillF_nat {h : Nat → Int32} {x : Int32} {k b : Nat} (hb : k ≤ b) : fillF h x k b = h b := if_neg (by omega)

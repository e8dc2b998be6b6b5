/-! ===== the reference's small methods: what they answer ===== -/
theorem le_pred {s : Int32} {n : Nat} (hn : n < 2 ^ 30) : s ≤ nI n - 1 ↔ s < nI n := by
  have h1 : (nI n - 1).toInt = (n : Int) - 1 := pk_sub_toInt (b := 1) hn (by decide)
  rw [Int32.le_iff_toInt_le, Int32.lt_iff_toInt_lt, h1, nI_toInt (by omega)]
  omega
theorem ix3 (s : Nat) : (3 : Int32) * nI s = nI (3 * s) := pk_mul 3 s
theorem ix31 (s : Nat) : (3 : Int32) * nI s + 1 = nI (3 * s + 1) := by rw [ix3]; exact nI_add (3 * s) 1
theorem ix32 (s : Nat) : (3 : Int32) * nI s + 2 = nI (3 * s + 2) := by rw [ix3]; exact nI_add (3 * s) 2
theorem ix3n (s c : Nat) : (3 : Int32) * nI s + nI c = nI (3 * s + c) := by rw [ix3]; exact nI_add (3 * s) c
noncomputable def qualM (σ : Mm) (s : Nat) : Int32 := qualS (σ 73 s) (σ 74 (3 * s)) (σ 74 (3 * s + 1)) (σ 74 (3 * s + 2))
def dblM (σ : Mm) (s : Nat) : Prop := dblS (σ 73 s) (σ 74 (3 * s)) (σ 74 (3 * s + 1))
noncomputable def valM (σ : Mm) (s : Nat) : Int32 := valS (σ 65 s) (qualM σ s) (σ 77)
def canM (σ : Mm) (s : Nat) : Prop := σ 69 s = 0 ∧ 0 < σ 73 s ∧ ¬ dblM σ s
noncomputable def deM (σ : Mm) : Nat → Int32
  | 0 => -1
  | k + 1 => iF (canM σ k ∧ (deM σ k = -1 ∨ valM σ (deM σ k).toNatClampNeg < valM σ k)) (nI k) (deM σ k)
theorem deM_ix (σ : Mm) : ∀ k, deM σ k = -1 ∨ ∃ j, j < k ∧ deM σ k = nI j := ix_lt rfl (fun _ => iF_or)
noncomputable def rkM (σ : Mm) (b : Nat) : Nat → Nat
  | 0 => 0
  | k + 1 => iF (σ 82 b < σ 82 k ∨ (σ 82 k = σ 82 b ∧ k < b)) (rkM σ b k + 1) (rkM σ b k)
noncomputable def bxM (σ : Mm) (b : Nat) : Nat → Nat
  | 0 => 0
  | k + 1 => iF (σ 79 b < σ 79 k ∨ (σ 79 k = σ 79 b ∧ k < b)) (bxM σ b k + 1) (bxM σ b k)
noncomputable def fsF (P : Nat → Prop) : Nat → Int32
  | 0 => -1
  | k + 1 => iF (¬ fsF P k = -1) (fsF P k) (iF (P k) (nI k) (-1))
theorem fsF_no {P : Nat → Prop} : ∀ n, (∀ b, b < n → ¬ P b) → fsF P n = -1
  | 0, _ => rfl
  | k + 1, h => by
    have h1 := fsF_no k (fun b hb => h b (by omega))
    rw [fsF, iF_f (fun q => q h1), iF_f (h k (by omega))]
theorem fsF_at {P : Nat → Prop} {j : Nat} (hj : P j) (h0 : ∀ b, b < j → ¬ P b) (h31 : j < 2 ^ 31) : ∀ n, j < n → fsF P n = nI j
  | 0, h => absurd h (by omega)
  | k + 1, h => by
    rcases (show j = k ∨ j < k by omega) with q | q
    · subst q
      have h1 := fsF_no (P := P) j h0
      rw [fsF, iF_f (fun z => z h1), iF_t hj]
    · have h1 := fsF_at hj h0 h31 k q
      rw [fsF, iF_t (by rw [h1]; exact nI_nem1 h31), h1]
noncomputable def gradeM (σ : Mm) (p : Nat) : Int32 := gradeS (σ 93 p) (σ 94 (3 * p)) (σ 94 (3 * p + 1)) (σ 94 (3 * p + 2))
noncomputable def pitM (σ : Mm) (s : Nat) : Int32 := σ 62 (σ 64 s).toNatClampNeg
noncomputable def orgM (σ : Mm) (p : Nat) : Int32 := pitM σ (σ 87 p).toNatClampNeg
noncomputable def cmM (σ : Mm) (x : Int32) : Nat → Int32
  | 0 => 0
  | k + 1 => iF (pitM σ k = x) (cmM σ x k + σ 65 k) (cmM σ x k)
/-- opinions are told within 0 and 18 -/
def bd18 (x : Int32) : Prop := 0 ≤ x ∧ x ≤ 18
theorem abs_2 {a b : Int32} (ha : bd18 a) (hb : bd18 b) : 2 ≤ absI (a - b) ↔ (2 ≤ a - b ∨ a - b ≤ -2) := by
  obtain ⟨x, hx1, hx2, rfl⟩ := rg_of (a := 0) (b := 18) (by decide) ha
  obtain ⟨y, hy1, hy2, rfl⟩ := rg_of (a := 0) (b := 18) (by decide) hb
  have key : ∀ x, x ≤ 18 → ∀ y, y ≤ 18 → (2 ≤ absI (nI x - nI y) ↔ (2 ≤ nI x - nI y ∨ nI x - nI y ≤ -2)) := by decide +kernel
  exact key x hx2 y hy2
theorem mxI_or (a b : Int32) : mxI a b = a ∨ mxI a b = b := by
  unfold mxI; split
  · exact Or.inr rfl
  · exact Or.inl rfl
theorem mnI_or (a b : Int32) : mnI a b = a ∨ mnI a b = b := by
  unfold mnI; split
  · exact Or.inr rfl
  · exact Or.inl rfl
theorem qual_bd {n a b c : Int32} (ha : bd18 a) (hb : bd18 b) (hc : bd18 c) (hn : ¬ n = 0) : bd18 (qualS n a b c) := by
  have hmx : ∀ x y, bd18 x → bd18 y → bd18 (mxI x y) := fun x y h1 h2 => by rcases mxI_or x y with h | h <;> rw [h] <;> assumption
  have hmn : ∀ x y, bd18 x → bd18 y → bd18 (mnI x y) := fun x y h1 h2 => by rcases mnI_or x y with h | h <;> rw [h] <;> assumption
  unfold qualS
  rw [iF_f hn]
  rcases iF_or (P := n = 1) (a := a) (b := iF (n = 2) (mxI a b) (mid3 a b c)) with h | h
  · rw [h]; exact ha
  · rw [h]
    rcases iF_or (P := n = 2) (a := mxI a b) (b := mid3 a b c) with h | h
    · rw [h]; exact hmx _ _ ha hb
    · rw [h]; exact hmx _ _ (hmn _ _ ha hb) (hmn _ _ (hmx _ _ ha hb) hc)
theorem bd_ix {x : Int32} (h : bd18 x) : ∃ b : Nat, b < 19 ∧ x = nI b := by
  obtain ⟨m, _, h2, h3⟩ := rg_of (a := 0) (b := 18) (by decide) h
  exact ⟨m, by omega, h3⟩
theorem qual_0 {n a b c : Int32} (hn : n = 0) : qualS n a b c = -1 := iF_t hn
/-- what the reference's methods lean on -/
def ML (nr ng np nb : Nat) (σ : Mm) : Prop := σ 60 1 = nI np ∧ σ 60 3 = nI nr ∧ σ 60 26 = nI ng ∧ σ 60 18 = nI nb ∧ np ≤ 12 ∧ nr ≤ 40 ∧ ng ≤ 80 ∧ nb ≤ 5 ∧ (∀ j, bd18 (σ 74 j)) ∧ (∀ s, s < nr → ∃ c, c ≤ 3 ∧ σ 73 s = nI c) ∧ (∀ p, p < ng → ∃ c, c ≤ 3 ∧ σ 93 p = nI c) ∧ (∀ s, s < nr → ∃ a, a < np ∧ σ 64 s = nI a) ∧ (∀ p, p < ng → ∃ i, i < nr ∧ σ 87 p = nI i) ∧ (∀ b, b < 5 → σ 81 b = -1 ∨ ∃ a, a < 5 ∧ σ 81 b = nI a) ∧ (σ 60 23 = -1 ∨ ∃ i, i < nr ∧ σ 60 23 = nI i)

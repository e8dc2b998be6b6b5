/-! ===== two books that agree: what must be alike, and what of it the other end of the row leaves ===== -/
def bd18 (x : Int32) : Prop := 0 ≤ x ∧ x ≤ 18
theorem mxI_or (a b : Int32) : mxI a b = a ∨ mxI a b = b := by
  unfold mxI; split
  · exact Or.inr rfl
  · exact Or.inl rfl
theorem mnI_or (a b : Int32) : mnI a b = a ∨ mnI a b = b := by
  unfold mnI; split
  · exact Or.inr rfl
  · exact Or.inl rfl
theorem qual_bd {n a b c : Int32} (ha : bd18 a) (hb : bd18 b) (hc : bd18 c) (hn : ¬ n = 0) : bd18 (qualS n a b c) := by
  have hmx : ∀ x y, bd18 x → bd18 y → bd18 (mxI x y) := fun x y h1 h2 => by rcases mxI_or x y with h | h <;> rw [h] <;> assumption
  have hmn : ∀ x y, bd18 x → bd18 y → bd18 (mnI x y) := fun x y h1 h2 => by rcases mnI_or x y with h | h <;> rw [h] <;> assumption
  unfold qualS
  rw [iF_f hn]
  rcases iF_or (P := n = 1) (a := a) (b := iF (n = 2) (mxI a b) (mid3 a b c)) with h | h
  · rw [h]; exact ha
  · rw [h]
    rcases iF_or (P := n = 2) (a := mxI a b) (b := mid3 a b c) with h | h
    · rw [h]; exact hmx _ _ ha hb
    · rw [h]; exact hmx _ _ (hmn _ _ ha hb) (hmn _ _ (hmx _ _ ha hb) hc)
theorem bd_ix {x : Int32} (h : bd18 x) : ∃ b : Nat, b < 19 ∧ x = nI b := by
  obtain ⟨m, _, h2, h3⟩ := rg_of (a := 0) (b := 18) (by decide) h
  exact ⟨m, by omega, h3⟩
theorem b18_0 : bd18 0 := ⟨by decide, by decide⟩
theorem bd_T {x : Int32} {M : Nat} (hM : M ≤ 18) : bd18 (mxI 0 (mnI (nI M) x)) := by
  have hM0 : (0 : Int32) ≤ nI M := nI_pos' (by omega)
  have hM1 : nI M ≤ 18 := (nI_leI (b := 18) (by omega) (by decide)).mpr hM
  unfold mxI mnI
  by_cases h : x < nI M
  · rw [if_pos h]
    by_cases g : 0 < x
    · rw [if_pos g]; exact ⟨Int32.le_of_lt g, Int32.le_trans (Int32.le_of_lt h) hM1⟩
    · rw [if_neg g]; exact b18_0
  · rw [if_neg h]
    by_cases g : 0 < nI M
    · rw [if_pos g]; exact ⟨hM0, hM1⟩
    · rw [if_neg g]; exact b18_0
theorem iF_cg {α : Type} {P Q : Prop} {a b c d : α} (h : P ↔ Q) (h1 : Q → a = c) (h2 : ¬ Q → b = d) : iF P a b = iF Q c d := by
  by_cases q : Q
  · rw [iF_t (h.mpr q), iF_t q, h1 q]
  · rw [iF_f (fun z => q (h.mp z)), iF_f q, h2 q]
theorem tkC_at {σ : Mm} {x b t : Int32} : ∀ (k i : Nat), ((i < k ∧ ¬ σ 2 i = 0 ∧ σ 30 i = x) → tkC σ x b t k 28 i = iF (t = 0) 0 2 ∧ tkC σ x b t k 30 i = -1 ∧ tkC σ x b t k 29 i = iF (t = 0) (σ 29 i) b) ∧ (¬ (i < k ∧ ¬ σ 2 i = 0 ∧ σ 30 i = x) → tkC σ x b t k 28 i = σ 28 i ∧ tkC σ x b t k 30 i = σ 30 i ∧ tkC σ x b t k 29 i = σ 29 i)
  | 0, i => ⟨fun h => absurd h.1 (by omega), fun _ => ⟨rfl, rfl, rfl⟩⟩
  | k + 1, i => by
    obtain ⟨h1, h2⟩ := tkC_at (σ := σ) (x := x) (b := b) (t := t) k i
    obtain ⟨k1, k2⟩ := (tkC_at (σ := σ) (x := x) (b := b) (t := t) k k).2 (fun z => absurd z.1 (by omega))
    have e2 : tkC σ x b t k 2 = σ 2 := tkC_r σ x b t (by decide) (by decide) (by decide) k
    obtain ⟨τ, hτ⟩ : ∃ τ, tkC σ x b t k = τ := ⟨_, rfl⟩
    rw [tkC]
    rw [hτ] at h1 h2 k1 k2 e2 ⊢
    rw [e2, k2.1]
    by_cases e : i = k
    · subst e
      refine ⟨fun h => ?_, fun h => ?_⟩
      · rw [iF_t h.2]
        by_cases q : t = 0
        · rw [iF_t q, iF_t q, iF_t q]
          exact ⟨pk_us, pk_us, k2.2⟩
        · rw [iF_f q, iF_f q, iF_f q]
          exact ⟨pk_us, pk_us, pk_us⟩
      · rw [iF_f (fun z => h ⟨by omega, z⟩)]
        exact ⟨k1, k2⟩
    · have hi : i < k + 1 ↔ i < k := by omega
      rw [hi]
      have hr : ∀ r, (iF (¬ σ 2 k = 0 ∧ σ 30 k = x) (iF (t = 0) (up (up τ 28 k 0) 30 k (-1)) (up (up (up (up τ 28 k 0) 30 k (-1)) 28 k 2) 29 k b)) τ) r i = τ r i := fun r => by
        rcases iF_or (P := (¬ σ 2 k = 0 ∧ σ 30 k = x)) (a := (iF (t = 0) (up (up τ 28 k 0) 30 k (-1)) (up (up (up (up τ 28 k 0) 30 k (-1)) 28 k 2) 29 k b))) (b := τ) with g | g
        · rw [g]
          rcases iF_or (P := (t = 0)) (a := (up (up τ 28 k 0) 30 k (-1))) (b := (up (up (up (up τ 28 k 0) 30 k (-1)) 28 k 2) 29 k b)) with g | g
          · rw [g, up_nj e, up_nj e]
          · rw [g, up_nj e, up_nj e, up_nj e, up_nj e]
        · rw [g]
      rw [hr 28, hr 29, hr 30]
      exact ⟨h1, h2⟩
theorem opC_at {σ : Mm} : ∀ (k i : Nat), ((i < k ∧ ¬ σ 2 i = 0 ∧ σ 28 i = 1) → opC σ k 28 i = 0 ∧ opC σ k 30 i = -1) ∧ (¬ (i < k ∧ ¬ σ 2 i = 0 ∧ σ 28 i = 1) → opC σ k 28 i = σ 28 i ∧ opC σ k 30 i = σ 30 i)
  | 0, i => ⟨fun h => absurd h.1 (by omega), fun _ => ⟨rfl, rfl⟩⟩
  | k + 1, i => by
    obtain ⟨h1, h2⟩ := opC_at (σ := σ) k i
    obtain ⟨k1, k2⟩ := (opC_at (σ := σ) k k).2 (fun z => absurd z.1 (by omega))
    have e2 : opC σ k 2 = σ 2 := opC_r σ (by decide) (by decide) k
    obtain ⟨τ, hτ⟩ : ∃ τ, opC σ k = τ := ⟨_, rfl⟩
    rw [opC]
    rw [hτ] at h1 h2 k1 k2 e2 ⊢
    rw [e2, k1]
    by_cases e : i = k
    · subst e
      refine ⟨fun h => ?_, fun h => ?_⟩
      · rw [iF_t h.2]; exact ⟨pk_us, pk_us⟩
      · rw [iF_f (fun z => h ⟨by omega, z⟩)]; exact ⟨k1, k2⟩
    · have hi : i < k + 1 ↔ i < k := by omega
      rw [hi]
      have hr : ∀ r, (iF (¬ σ 2 k = 0 ∧ σ 28 k = 1) (up (up τ 28 k 0) 30 k (-1)) τ) r i = τ r i := fun r => by
        rcases iF_or (P := (¬ σ 2 k = 0 ∧ σ 28 k = 1)) (a := (up (up τ 28 k 0) 30 k (-1))) (b := τ) with g | g
        · rw [g, up_nj e, up_nj e]
        · rw [g]
      rw [hr 28, hr 30]
      exact ⟨h1, h2⟩
def EQ (σ τ : Mm) : Prop := ∀ r, r ≠ 26 → (r < 40 ∨ 60 ≤ r) → τ r = σ r
theorem EQ_up {σ τ : Mm} (h : EQ σ τ) (r j : Nat) (x : Int32) : EQ (up σ r j x) (up τ r j x) := fun r2 h1 h2 => by
  by_cases e : r2 = r
  · subst e; rw [up_eq, up_eq, h r2 h1 h2]
  · rw [up_ne e, up_ne e, h r2 h1 h2]
theorem EQ_upR {σ τ : Mm} (h : EQ σ τ) (r : Nat) (g : Nat → Int32) : EQ (upR σ r g) (upR τ r g) := fun r2 h1 h2 => by
  by_cases e : r2 = r
  · subst e; rw [upR_eq, upR_eq]
  · rw [upR_ne e, upR_ne e, h r2 h1 h2]
theorem EQ_26 {σ τ : Mm} (h : EQ σ τ) {j : Nat} {x y : Int32} : EQ (up σ 26 j x) (up τ 26 j y) := fun r2 h1 h2 => by
  rw [up_ne h1, up_ne h1, h r2 h1 h2]
theorem EQ_g {σ τ : Mm} (h : EQ σ τ) {r i j : Nat} {x y : Int32} (hr : 40 ≤ r ∧ r < 60) : EQ (up σ r i x) (up τ r j y) := fun r2 h1 h2 => by
  rw [up_ne (by omega), up_ne (by omega), h r2 h1 h2]
theorem EQ_iF {a b c d : Mm} {p q : Prop} (h : q ↔ p) (h1 : EQ a b) (h2 : EQ c d) : EQ (iF p a c) (iF q b d) := by
  by_cases g : p
  · rw [iF_t g, iF_t (h.mpr g)]; exact h1
  · rw [iF_f g, iF_f (fun z => g (h.mp z))]; exact h2
section EQS
variable {σ τ : Mm}
theorem EQ.qu (h : EQ σ τ) (i : Nat) : qualC τ i = qualC σ i := qualC_cg (h 33 (by decide) (by decide)) (h 34 (by decide) (by decide)) (h 35 (by decide) (by decide)) (h 36 (by decide) (by decide))
theorem EQ.va (h : EQ σ τ) (i : Nat) : valC τ i = valC σ i := by
  unfold valC
  rw [h.qu, h 23 (by decide) (by decide), h 5 (by decide) (by decide)]
theorem EQ.db (h : EQ σ τ) (i : Nat) : dblC τ i = dblC σ i := by
  unfold dblC
  rw [h 33 (by decide) (by decide), h 34 (by decide) (by decide), h 35 (by decide) (by decide)]
theorem EQ.ca (h : EQ σ τ) (i : Nat) : canC τ i = canC σ i := by
  unfold canC
  rw [h.db, h 28 (by decide) (by decide), h 33 (by decide) (by decide)]
theorem EQ.de (h : EQ σ τ) : ∀ k, deC τ k = deC σ k
  | 0 => rfl
  | k + 1 => by
    rw [deC, deC, EQ.de h k, h 2 (by decide) (by decide), h.ca, h.va]
    simp only [h.va]
theorem EQ.op (h : EQ σ τ) : ∀ k, EQ (opC σ k) (opC τ k)
  | 0 => h
  | k + 1 => by
    have ih := EQ.op h k
    rw [opC, opC]
    exact EQ_iF (by rw [ih 2 (by decide) (by decide), ih 28 (by decide) (by decide)]) (EQ_up (EQ_up ih 28 k 0) 30 k (-1)) ih
theorem EQ.pb (h : EQ σ τ) : ∀ k, pbC τ k = pbC σ k
  | 0 => rfl
  | k + 1 => by rw [pbC, pbC, EQ.pb h k, h 8 (by decide) (by decide)]
theorem EQ.et (h : EQ σ τ) (i : Nat) : EQ (endT σ i) (endT τ i) := EQ_iF (by rw [h 9 (by decide) (by decide)]) (EQ_up h 9 0 0) h
theorem EQ.nb (h : EQ σ τ) : nbN τ = nbN σ := by unfold nbN; rw [h 0 (by decide) (by decide)]
theorem EQ.st (h : EQ σ τ) (i : Nat) : EQ (stepC σ i) (stepC τ i) := by
  unfold stepC
  rw [h.nb, h.pb, h.va, h 8 (by decide) (by decide)]
  exact (EQ_up (EQ_up (EQ_up h _ _ _) _ _ _) _ _ _).et i
theorem EQ.bf (h : EQ σ τ) : ∀ k, bfC τ k = bfC σ k
  | 0 => rfl
  | k + 1 => by rw [bfC, bfC, EQ.bf h k, h 7 (by decide) (by decide), h 6 (by decide) (by decide)]
theorem EQ.of (h : EQ σ τ) (x : Int32) : offd τ x = offd σ x := by unfold offd; rw [h 7 (by decide) (by decide)]
theorem EQ.rf (h : EQ σ τ) : ∀ k, rfC τ k = rfC σ k
  | 0 => rfl
  | k + 1 => by rw [rfC, rfC, EQ.rf h k, h.of, h 8 (by decide) (by decide)]
theorem EQ.so (h : EQ σ τ) : EQ (stepO σ) (stepO τ) := by
  unfold stepO
  rw [h.bf, h.rf, h.nb]
  exact EQ_iF Iff.rfl h (EQ_up h _ _ _)
theorem EQ.og (h : EQ σ τ) : ∀ k, EQ (offG σ k) (offG τ k)
  | 0 => h
  | k + 1 => (EQ.og h k).so
theorem EQ.tk (h : EQ σ τ) (x b t : Int32) : ∀ k, EQ (tkC σ x b t k) (tkC τ x b t k)
  | 0 => h
  | k + 1 => by
    have ih := EQ.tk h x b t k
    rw [tkC, tkC]
    exact EQ_iF (by rw [ih 2 (by decide) (by decide), ih 30 (by decide) (by decide)]) (EQ_iF Iff.rfl (EQ_up (EQ_up ih _ _ _) _ _ _) (EQ_up (EQ_up (EQ_up (EQ_up ih _ _ _) _ _ _) _ _ _) _ _ _)) ih
theorem EQ.tw (h : EQ σ τ) : ∀ k, twC τ k = twC σ k
  | 0 => rfl
  | k + 1 => by rw [twC, twC, EQ.tw h k, h 9 (by decide) (by decide), h 10 (by decide) (by decide), h 6 (by decide) (by decide)]
theorem EQ.py (h : EQ σ τ) (x : Int32) : ∀ k, payC τ x k = payC σ x k
  | 0 => by rw [payC, payC, h 9 (by decide) (by decide)]
  | k + 1 => by rw [payC, payC, EQ.py h x k, h 10 (by decide) (by decide)]
theorem EQ.cs (h : EQ σ τ) (i : Nat) : EQ (clsC σ i) (clsC τ i) := by
  unfold clsC
  rw [h.tw, h.py]
  exact EQ_iF Iff.rfl (EQ_up h _ _ _) (EQ_up (EQ_up (EQ_up (EQ_up h _ _ _) _ _ _) _ _ _) _ _ _)
theorem EQ.bv (h : EQ σ τ) (x : Int32) : ∀ k, bvC τ x k = bvC σ x k
  | 0 => rfl
  | k + 1 => by rw [bvC, bvC, EQ.bv h x k, h.va, h 2 (by decide) (by decide), h 30 (by decide) (by decide)]
theorem EQ.rw (h : EQ σ τ) : ∀ k, rwC τ k = rwC σ k
  | 0 => rfl
  | k + 1 => by rw [rwC, rwC, EQ.rw h k, h 2 (by decide) (by decide), h 28 (by decide) (by decide), h 23 (by decide) (by decide)]
theorem EQ.si (h : EQ σ τ) (i : Nat) (y : Int32) : siC τ i y = siC σ i y := by
  unfold siC
  rw [h.qu, h.db, h 28 (by decide) (by decide), h 29 (by decide) (by decide), h 30 (by decide) (by decide), h 21 (by decide) (by decide), h 31 (by decide) (by decide)]
theorem EQ.ob (h : EQ σ τ) (x : Int32) : EQ (opB σ x) (opB τ x) := by
  unfold opB
  rw [h 7 (by decide) (by decide), h 8 (by decide) (by decide)]
  exact EQ_up (EQ_upR (EQ_upR (h.op 40) _ _) _ _) _ _ _
end EQS
theorem EQ_fill : ∀ (f : Nat) (σ τ : Mm), EQ σ τ → EQ (fillG f σ) (fillG f τ) ∧ fillN f τ = fillN f σ
  | 0, σ, τ, h => ⟨h, rfl⟩
  | f + 1, σ, τ, h => by
    have e := h.de 40
    cases hd : deC σ 40 with
    | none =>
      rw [hd] at e
      rw [fillG_n _ hd, fillG_n _ e, fillN_n _ hd, fillN_n _ e]
      exact ⟨h, rfl⟩
    | some i =>
      rw [hd] at e
      rw [fillG_s _ hd, fillG_s _ e, fillN_s _ hd, fillN_s _ e]
      obtain ⟨h1, h2⟩ := EQ_fill f _ _ (h.st i)
      exact ⟨h1, by rw [h2]⟩
/-- sums over a row read in another order -/
theorem sumF_cg {h g : Nat → Int32} : ∀ n, (∀ i, i < n → h i = g i) → sumF h n = sumF g n
  | 0, _ => rfl
  | n + 1, e => by rw [sumF, sumF, sumF_cg n (fun i hi => e i (by omega)), e n (by omega)]
theorem sumF_upd {g : Nat → Int32} {m : Nat} {x : Int32} : ∀ n, m < n → sumF (upd g m x) n + g m = sumF g n + x
  | 0, h => absurd h (by omega)
  | n + 1, h => by
    rw [sumF, sumF]
    by_cases e : m = n
    · subst e
      rw [sumF_cg (h := upd g m x) (g := g) m (fun i hi => pk_un (by omega)), pk_us]
      grind
    · rw [pk_un (fun z => e z.symm)]
      have := sumF_upd (g := g) (m := m) (x := x) n (by omega)
      grind
theorem sumF_pm : ∀ (n : Nat) (h g : Nat → Int32) (π : Nat → Nat), (∀ i, i < n → π i < n) → (∀ a b, a < n → b < n → π a = π b → a = b) → (∀ i, i < n → h i = g (π i)) → sumF h n = sumF g n
  | 0, _, _, _, _, _, _ => rfl
  | n + 1, h, g, π, h1, h2, h3 => by
    have hm := h1 n (by omega)
    have key : ∀ i, i < n → π i ≠ π n := fun i hi e => by have := h2 i n (by omega) (by omega) e; omega
    have ih := sumF_pm n h (upd g (π n) (g n)) (fun i => if π i = n then π n else π i) (fun i hi => by
      have a1 := h1 i (by omega)
      show (if π i = n then π n else π i) < n
      by_cases e : π i = n
      · rw [if_pos e]
        have := key i hi
        rw [e] at this
        omega
      · rw [if_neg e]; omega) (fun a b ha hb e => by
      have ka := key a ha
      have kb := key b hb
      change (if π a = n then π n else π a) = (if π b = n then π n else π b) at e
      by_cases ea : π a = n
      · by_cases eb : π b = n
        · exact h2 a b (by omega) (by omega) (ea.trans eb.symm)
        · rw [if_pos ea, if_neg eb] at e; exact absurd e.symm kb
      · by_cases eb : π b = n
        · rw [if_neg ea, if_pos eb] at e; exact absurd e ka
        · rw [if_neg ea, if_neg eb] at e; exact h2 a b (by omega) (by omega) e) (fun i hi => by
      show h i = upd g (π n) (g n) (if π i = n then π n else π i)
      by_cases e : π i = n
      · rw [if_pos e, pk_us, h3 i (by omega), e]
      · rw [if_neg e, pk_un (key i hi), h3 i (by omega)])
    rw [sumF, sumF, ih, h3 n (by omega)]
    by_cases e : π n = n
    · rw [e, sumF_cg (h := upd g n (g n)) (g := g) n (fun i hi => pk_un (by omega))]
    · have := sumF_upd (g := g) (m := π n) (x := g n) n (by omega)
      grind


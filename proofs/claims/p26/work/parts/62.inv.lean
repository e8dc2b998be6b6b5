/-! ===== the two books: the invariant ===== -/
def gR : List Nat := [40, 41, 42, 43, 45, 47, 48, 50, 51, 52, 53, 54]
def B0 (nr ng np nb : Nat) (σ : Mm) : Prop := PRs nr σ ∧ PGs ng σ ∧ (σ 0 1 = nI np ∧ np ≤ 12) ∧ σ 0 3 = nI nr ∧ σ 0 12 = nI ng ∧ (σ 0 9 = nI nb ∧ nb ≤ 5) ∧ ∀ i, i < np → ∃ a, a < 4 ∧ σ 1 i = nI a
def BD (σ : Mm) : Prop := ∀ i, bd18 (σ 34 i) ∧ bd18 (σ 35 i) ∧ bd18 (σ 36 i)
def ZC (nr : Nat) (C : Nat → Prop) (σ : Mm) : Prop := (∀ i, i < nr → σ 30 i = -1 ∨ σ 28 i = 1) ∧ (σ 9 0 = 0 ∨ ∃ i, i < nr ∧ σ 9 0 = nI (i + 1) ∧ σ 28 i = 0) ∧ ∀ i, i < nr → (σ 28 i = 3 ↔ C i)
noncomputable def cN (C : Nat → Prop) : Nat → Nat
  | 0 => 0
  | k + 1 => cN C k + iF (C k) 1 0
def FL (nr : Nat) (σ τ : Mm) : Prop := ∀ i, i < nr → ∃ F, F < 4096 ∧ σ 26 i = nI F ∧ τ 26 i = nI (rvN F 12)
def GM (ng : Nat) (π : Nat → Nat) (σ τ : Mm) : Prop := ∀ k, k < ng → (∀ r, r ∈ gR → τ r (π k) = σ r k) ∧ σ 44 k + σ 45 k + τ 44 (π k) = 12
def PI (ng : Nat) (π : Nat → Nat) : Prop := (∀ k, k < ng → π k < ng) ∧ ∀ a b, a < ng → b < ng → π a = π b → a = b
def J (nr ng np nb : Nat) (C : Nat → Prop) (π : Nat → Nat) (σ τ : Mm) : Prop := (B0 nr ng np nb σ ∧ HZ nr ng σ ∧ BD σ ∧ ZC nr C σ) ∧ EQ σ τ ∧ FL nr σ τ ∧ GM ng π σ τ ∧ PI ng π ∧ ng ≤ 4 * cN C nr ∧ nr ≤ 14
theorem cN_le (C : Nat → Prop) : ∀ n, cN C n ≤ n
  | 0 => Nat.le_refl 0
  | n + 1 => by
    have := cN_le C n
    rw [cN]
    rcases iF_or (P := C n) (a := 1) (b := 0) with h | h <;> rw [h] <;> omega
theorem cN_cg {C E : Nat → Prop} : ∀ n, (∀ i, i < n → (C i ↔ E i)) → cN C n = cN E n
  | 0, _ => rfl
  | n + 1, h => by
    rw [cN, cN, cN_cg n (fun i hi => h i (by omega)), propext (h n (by omega))]
theorem cN_add {C : Nat → Prop} {a : Nat} (ha : ¬ C a) : ∀ n, a < n → cN (fun i => i = a ∨ C i) n = cN C n + 1
  | 0, h => absurd h (by omega)
  | n + 1, h => by
    rw [cN, cN]
    by_cases e : a = n
    · subst e
      rw [iF_t (Or.inl rfl), iF_f ha, cN_cg (C := fun i => i = a ∨ C i) (E := C) a (fun i hi => ⟨fun q => q.elim (fun z => absurd z (by omega)) id, Or.inr⟩)]
    · rw [cN_add ha n (by omega)]
      have : (n = a ∨ C n) ↔ C n := ⟨fun q => q.elim (fun z => absurd z.symm e) id, Or.inr⟩
      rw [propext this]
      omega
theorem qOK_B {σ : Mm} (hb : BD σ) (s : Nat) : qOK (qualC σ s) := by
  by_cases h : σ 33 s = 0
  · exact Or.inl (iF_t h)
  · exact Or.inr (bd_ix (qual_bd (n := σ 33 s) (hb s).1 (hb s).2.1 (hb s).2.2 h))
theorem tOK_Z {nr : Nat} {C : Nat → Prop} {σ : Mm} (h : ZC nr C σ) : tOK nr σ := h.2.1.elim Or.inl (fun ⟨i, a, b, _⟩ => Or.inr ⟨i, a, b⟩)
theorem IC_B {nr ng np nb : Nat} {C : Nat → Prop} {σ : Mm} (h : B0 nr ng np nb σ ∧ HZ nr ng σ ∧ BD σ ∧ ZC nr C σ) : IC nr ng np nb σ := ⟨h.1.1, h.1.2.1, h.1.2.2.1, h.1.2.2.2.1, h.1.2.2.2.2.1, h.1.2.2.2.2.2.1, tOK_Z h.2.2.2, fun i _ => qOK_B h.2.2.1 i, h.1.2.2.2.2.2.2⟩
section JS
variable {nr ng np nb : Nat} {C : Nat → Prop} {π : Nat → Nat} {σ τ : Mm}
theorem J.ic (h : J nr ng np nb C π σ τ) : IC nr ng np nb σ := IC_B h.1
theorem J.hz (h : J nr ng np nb C π σ τ) : HZ nr ng σ := h.1.2.1
theorem B0_cg {nr ng np nb : Nat} {σ τ : Mm} (h0 : τ 0 = σ 0) (h1 : τ 1 = σ 1) (h2 : τ 2 = σ 2) (h11 : τ 11 = σ 11) (h : B0 nr ng np nb σ) : B0 nr ng np nb τ := by
  unfold B0 PRs PGs at *
  rw [h0, h1, h2, h11]; exact h
theorem HZ_cg {nr ng : Nat} {σ τ : Mm} (h2 : τ 2 = σ 2) (h11 : τ 11 = σ 11) (h : HZ nr ng σ) : HZ nr ng τ := by
  unfold HZ at *
  rw [h2, h11]; exact h
theorem BD_cg {σ τ : Mm} (h1 : τ 34 = σ 34) (h2 : τ 35 = σ 35) (h3 : τ 36 = σ 36) (h : BD σ) : BD τ := by
  unfold BD at *
  rw [h1, h2, h3]; exact h
theorem ZC_cg {nr : Nat} {C : Nat → Prop} {σ τ : Mm} (h1 : τ 28 = σ 28) (h2 : τ 30 = σ 30) (h3 : τ 9 0 = σ 9 0) (h : ZC nr C σ) : ZC nr C τ := by
  unfold ZC at *
  rw [h1, h2, h3]; exact h
theorem J.ic2 (h : J nr ng np nb C π σ τ) : IC nr ng np nb τ := by
  have e := h.2.1
  exact IC_B ⟨B0_cg (e 0 (by decide) (by decide)) (e 1 (by decide) (by decide)) (e 2 (by decide) (by decide)) (e 11 (by decide) (by decide)) h.1.1, HZ_cg (e 2 (by decide) (by decide)) (e 11 (by decide) (by decide)) h.1.2.1, BD_cg (e 34 (by decide) (by decide)) (e 35 (by decide) (by decide)) (e 36 (by decide) (by decide)) h.1.2.2.1, ZC_cg (e 28 (by decide) (by decide)) (e 30 (by decide) (by decide)) (by rw [e 9 (by decide) (by decide)]) h.1.2.2.2⟩
theorem J.hz2 (h : J nr ng np nb C π σ τ) : HZ nr ng τ := HZ_cg (h.2.1 2 (by decide) (by decide)) (h.2.1 11 (by decide) (by decide)) h.hz
theorem J.ng56 (h : J nr ng np nb C π σ τ) : ng ≤ 56 := by
  have := cN_le C nr
  have := h.2.2.2.2.2
  omega
/-- a step that leaves flaws and polished stones as they were -/
theorem J_s {np2 nb2 : Nat} {σ2 τ2 : Mm} (h : J nr ng np nb C π σ τ) (hb : B0 nr ng np2 nb2 σ2) (hz : HZ nr ng σ2) (hd : BD σ2) (hc : ZC nr C σ2) (he : EQ σ2 τ2) (g1 : ∀ r, r = 26 ∨ (40 ≤ r ∧ r < 60) → σ2 r = σ r) (g2 : ∀ r, r = 26 ∨ (40 ≤ r ∧ r < 60) → τ2 r = τ r) : J nr ng np2 nb2 C π σ2 τ2 := by
  obtain ⟨-, -, hf, hg, hp⟩ := h
  refine ⟨⟨hb, hz, hd, hc⟩, he, fun i hi => ?_, fun k hk => ⟨fun r hr => ?_, ?_⟩, hp⟩
  · rw [g1 26 (Or.inl rfl), g2 26 (Or.inl rfl)]; exact hf i hi
  · have h40 : 40 ≤ r ∧ r < 60 := by
      simp only [gR, List.mem_cons, List.not_mem_nil, or_false] at hr
      omega
    rw [g1 r (Or.inr h40), g2 r (Or.inr h40)]; exact (hg k hk).1 r hr
  · rw [g1 44 (Or.inr (by decide)), g1 45 (Or.inr (by decide)), g2 44 (Or.inr (by decide))]; exact (hg k hk).2
/-- one word in a row that nothing else leans on -/
theorem J_1 (r j : Nat) (x : Int32) (hr : r = 3 ∨ r = 5 ∨ r = 10 ∨ r = 12 ∨ r = 14) (h : J nr ng np nb C π σ τ) : J nr ng np nb C π (up σ r j x) (up τ r j x) :=
  J_s h (B0_cg (up_ne (by omega)) (up_ne (by omega)) (up_ne (by omega)) (up_ne (by omega)) h.1.1) (HZ_cg (up_ne (by omega)) (up_ne (by omega)) h.1.2.1) (BD_cg (up_ne (by omega)) (up_ne (by omega)) (up_ne (by omega)) h.1.2.2.1) (ZC_cg (up_ne (by omega)) (up_ne (by omega)) (by rw [up_ne (by omega)]) h.1.2.2.2) (EQ_up h.2.1 r j x) (fun q hq => up_ne (by omega)) (fun q hq => up_ne (by omega))
theorem bdu {h : Nat → Int32} {i : Nat} {x : Int32} (h1 : ∀ p, bd18 (h p)) (h2 : bd18 x) (p : Nat) : bd18 (upd h i x p) := by
  by_cases e : p = i
  · subst e; rw [pk_us]; exact h2
  · rw [pk_un e]; exact h1 p
def soC (σ : Mm) (j i : Nat) : Int32 := mxI 0 (mnI 18 (σ 24 i + σ 25 i + σ 3 j))
noncomputable def srC (σ : Mm) (j i : Nat) (t : Int32) : Mm := up (up (up (up (up σ 32 i (σ 32 i ||| ((1 : Int32) <<< (nI j &&& 31)))) 33 i (σ 33 i + 1)) 34 i (iF (σ 33 i = 0) t (σ 34 i))) 35 i (iF (σ 33 i = 1) t (σ 35 i))) 36 i (iF (¬ σ 33 i = 0 ∧ ¬ σ 33 i = 1) t (σ 36 i))
theorem J_sort (h : J nr ng np nb C π σ τ) (j i : Nat) : J nr ng np nb C π (srC σ j i (soC σ j i)) (srC τ j i (soC τ j i)) ∧ soC τ j i = soC σ j i := by
  have e := h.2.1
  have e1 : soC τ j i = soC σ j i := by unfold soC; rw [e 24 (by decide) (by decide), e 25 (by decide) (by decide), e 3 (by decide) (by decide)]
  have hb := h.1.2.2.1
  have ht : bd18 (soC σ j i) := bd_T (M := 18) (by decide)
  have iFb : ∀ {p : Prop} {x : Int32}, bd18 x → bd18 (iF p (soC σ j i) x) := fun {p x} hx => by
    rcases iF_or (P := p) (a := soC σ j i) (b := x) with g | g <;> rw [g] <;> assumption
  refine ⟨J_s h (B0_cg rfl rfl rfl rfl h.1.1) (HZ_cg rfl rfl h.1.2.1) (fun p => ⟨?_, ?_, ?_⟩) (ZC_cg rfl rfl rfl h.1.2.2.2) ?_ (fun q hq => ?_) (fun q hq => ?_), e1⟩
  · exact bdu (fun p => (hb p).1) (iFb (hb i).1) p
  · exact bdu (fun p => (hb p).2.1) (iFb (hb i).2.1) p
  · exact bdu (fun p => (hb p).2.2) (iFb (hb i).2.2) p
  · rw [e1]
    unfold srC
    rw [e 32 (by decide) (by decide), e 33 (by decide) (by decide), e 34 (by decide) (by decide), e 35 (by decide) (by decide), e 36 (by decide) (by decide)]
    exact EQ_up (EQ_up (EQ_up (EQ_up (EQ_up e _ _ _) _ _ _) _ _ _) _ _ _) _ _ _
  · unfold srC
    rw [up_ne (by omega), up_ne (by omega), up_ne (by omega), up_ne (by omega), up_ne (by omega)]
  · unfold srC
    rw [up_ne (by omega), up_ne (by omega), up_ne (by omega), up_ne (by omega), up_ne (by omega)]
theorem J_parcel (h : J nr ng np nb C π σ τ) (hn : np < 12) {a : Nat} (ha : a < 4) : J nr ng (np + 1) nb C π (up (up σ 1 np (nI a)) 0 1 (nI (np + 1))) (up (up τ 1 np (nI a)) 0 1 (nI (np + 1))) := by
  obtain ⟨b1, b2, b3, b4, b5, b6, b7⟩ := h.1.1
  refine J_s h ⟨b1, b2, ⟨rfl, by omega⟩, b4, b5, b6, fun i hi => ?_⟩ (HZ_cg rfl rfl h.1.2.1) (BD_cg rfl rfl rfl h.1.2.2.1) (ZC_cg rfl rfl rfl h.1.2.2.2) (EQ_up (EQ_up h.2.1 _ _ _) _ _ _) (fun q hq => by rw [up_ne (by omega), up_ne (by omega)]) (fun q hq => by rw [up_ne (by omega), up_ne (by omega)])
  show ∃ x, x < 4 ∧ upd (σ 1) np (nI a) i = nI x
  by_cases e : i = np
  · subst e; exact ⟨a, ha, pk_us⟩
  · rw [pk_un e]; exact b7 i (by omega)
theorem tdC_r {i : Nat} {y : Int32} {σ : Mm} {r : Nat} (h1 : r ≠ 9) (h2 : r ≠ 10) : (upR (up (up σ 9 0 (nI (i + 1))) 9 1 y) 10 (fillF (σ 10) (-1) 5)) r = σ r := by
  rw [upR_ne h2, up_ne h1, up_ne h1]
theorem J_tender (h : J nr ng np nb C π σ τ) {i : Nat} {y : Int32} (hi : i < nr) (h28 : σ 28 i = 0) : J nr ng np nb C π (upR (up (up σ 9 0 (nI (i + 1))) 9 1 y) 10 (fillF (σ 10) (-1) 5)) (upR (up (up τ 9 0 (nI (i + 1))) 9 1 y) 10 (fillF (τ 10) (-1) 5)) := by
  have e := h.2.1
  refine J_s h (B0_cg rfl rfl rfl rfl h.1.1) (HZ_cg rfl rfl h.1.2.1) (BD_cg rfl rfl rfl h.1.2.2.1) ⟨h.1.2.2.2.1, Or.inr ⟨i, hi, rfl, h28⟩, h.1.2.2.2.2.2⟩ ?_ (fun q hq => tdC_r (by omega) (by omega)) (fun q hq => tdC_r (by omega) (by omega))
  rw [e 10 (by decide) (by decide)]
  exact EQ_upR (EQ_up (EQ_up e _ _ _) _ _ _) _ _
theorem clsC_r {i r : Nat} {σ : Mm} (h1 : r ≠ 9) (h2 : r ≠ 31) (h3 : r ≠ 28) (h4 : r ≠ 29) : clsC σ i r = σ r := iF_row (up_ne h1) (by rw [up_ne h1, up_ne h4, up_ne h3, up_ne h2])
theorem J_close (h : J nr ng np nb C π σ τ) {i : Nat} (hi : i < nr) (h9 : σ 9 0 = nI (i + 1)) : J nr ng np nb C π (clsC σ i) (clsC τ i) := by
  have e := h.2.1
  have hnr := h.2.2.2.2.2.2
  refine J_s h (B0_cg (clsC_r (by decide) (by decide) (by decide) (by decide)) (clsC_r (by decide) (by decide) (by decide) (by decide)) (clsC_r (by decide) (by decide) (by decide) (by decide)) (clsC_r (by decide) (by decide) (by decide) (by decide)) h.1.1) (HZ_cg (clsC_r (by decide) (by decide) (by decide) (by decide)) (clsC_r (by decide) (by decide) (by decide) (by decide)) h.1.2.1) (BD_cg (clsC_r (by decide) (by decide) (by decide) (by decide)) (clsC_r (by decide) (by decide) (by decide) (by decide)) (clsC_r (by decide) (by decide) (by decide) (by decide)) h.1.2.2.1) ?_ (e.cs i) (fun q hq => clsC_r (by omega) (by omega) (by omega) (by omega)) (fun q hq => clsC_r (by omega) (by omega) (by omega) (by omega))
  obtain ⟨z1, z2, z3⟩ := h.1.2.2.2
  have h28 : σ 28 i = 0 := by
    rcases z2 with z | ⟨k, hk, z, g⟩
    · rw [h9] at z; exact absurd z (nI_ne0 (by omega) (by omega))
    · rw [h9, nI_eq (by omega) (by omega)] at z
      have : k = i := by omega
      subst this; exact g
  have h30 : σ 30 i = -1 := (z1 i hi).resolve_right (fun q => by rw [h28] at q; exact absurd q (by decide))
  by_cases q : twC σ 5 = -1
  · rw [clsC, iF_t q]
    exact ⟨z1, Or.inl rfl, z3⟩
  · rw [clsC, iF_f q]
    refine ⟨fun k hk => ?_, Or.inl rfl, fun k hk => ?_⟩
    · show σ 30 k = -1 ∨ upd (σ 28) i 2 k = 1
      by_cases e : k = i
      · subst e; exact Or.inl h30
      · rw [pk_un e]; exact z1 k hk
    · show upd (σ 28) i 2 k = 3 ↔ C k
      by_cases e : k = i
      · subst e
        rw [pk_us]
        exact ⟨fun z => absurd z (by decide), fun z => by have := (z3 k hk).mpr z; rw [h28] at this; exact absurd this (by decide)⟩
      · rw [pk_un e]; exact z3 k hk
theorem J_take (h : J nr ng np nb C π σ τ) {j : Nat} {t u : Int32} (hj : ¬ σ 7 j = -1) : J nr ng np nb C π (up (up (tkC σ (σ 7 j) (nI j) t 40) 7 j (-1)) 6 j u) (up (up (tkC τ (τ 7 j) (nI j) t 40) 7 j (-1)) 6 j u) := by
  have e := h.2.1
  have tr : ∀ {μ : Mm} {x : Int32} {r : Nat}, r ≠ 28 → r ≠ 30 → r ≠ 29 → r ≠ 7 → r ≠ 6 → up (up (tkC μ x (nI j) t 40) 7 j (-1)) 6 j u r = μ r := fun {μ x r} a b c d f => by rw [up_ne f, up_ne d, tkC_r μ x _ t a b c]
  refine J_s h (B0_cg (tr (by decide) (by decide) (by decide) (by decide) (by decide)) (tr (by decide) (by decide) (by decide) (by decide) (by decide)) (tr (by decide) (by decide) (by decide) (by decide) (by decide)) (tr (by decide) (by decide) (by decide) (by decide) (by decide)) h.1.1) (HZ_cg (tr (by decide) (by decide) (by decide) (by decide) (by decide)) (tr (by decide) (by decide) (by decide) (by decide) (by decide)) h.1.2.1) (BD_cg (tr (by decide) (by decide) (by decide) (by decide) (by decide)) (tr (by decide) (by decide) (by decide) (by decide) (by decide)) (tr (by decide) (by decide) (by decide) (by decide) (by decide)) h.1.2.2.1) ?_ ?_ (fun q hq => tr (by omega) (by omega) (by omega) (by omega) (by omega)) (fun q hq => tr (by omega) (by omega) (by omega) (by omega) (by omega))
  · obtain ⟨z1, z2, z3⟩ := h.1.2.2.2
    have at28 : ∀ k, up (up (tkC σ (σ 7 j) (nI j) t 40) 7 j (-1)) 6 j u 28 k = tkC σ (σ 7 j) (nI j) t 40 28 k := fun _ => rfl
    have at30 : ∀ k, up (up (tkC σ (σ 7 j) (nI j) t 40) 7 j (-1)) 6 j u 30 k = tkC σ (σ 7 j) (nI j) t 40 30 k := fun _ => rfl
    have at9 : up (up (tkC σ (σ 7 j) (nI j) t 40) 7 j (-1)) 6 j u 9 = σ 9 := tr (by decide) (by decide) (by decide) (by decide) (by decide)
    have hx : ∀ k, (k < 40 ∧ ¬ σ 2 k = 0 ∧ σ 30 k = σ 7 j) → k < nr → σ 28 k = 1 := fun k hk hr => (z1 k hr).resolve_left (fun q => hj (hk.2.2.symm.trans q))
    refine ⟨fun k hk => ?_, ?_, fun k hk => ?_⟩
    · rw [at28, at30]
      by_cases q : k < 40 ∧ ¬ σ 2 k = 0 ∧ σ 30 k = σ 7 j
      · exact Or.inl ((tkC_at 40 k).1 q).2.1
      · rw [((tkC_at 40 k).2 q).1, ((tkC_at 40 k).2 q).2.1]; exact z1 k hk
    · rw [at9]
      rcases z2 with z | ⟨k, hk, z, g⟩
      · exact Or.inl z
      · refine Or.inr ⟨k, hk, z, ?_⟩
        rw [at28, ((tkC_at 40 k).2 (fun q => by have := hx k q hk; rw [g] at this; exact absurd this (by decide))).1]; exact g
    · rw [at28]
      by_cases q : k < 40 ∧ ¬ σ 2 k = 0 ∧ σ 30 k = σ 7 j
      · rw [((tkC_at 40 k).1 q).1]
        constructor
        · intro z
          rcases iF_or (P := t = 0) (a := (0 : Int32)) (b := 2) with g | g <;> rw [g] at z <;> exact absurd z (by decide)
        · intro z
          have := (z3 k hk).mpr z
          rw [hx k q hk] at this
          exact absurd this (by decide)
      · rw [((tkC_at 40 k).2 q).1]; exact z3 k hk
  · rw [e 7 (by decide) (by decide)]
    exact EQ_up (EQ_up (e.tk _ _ _ _) _ _ _) _ _ _
theorem ZC_op (h : ZC nr C σ) (hp : PRs nr σ) (hnr : nr ≤ 40) : ZC nr C (opC σ 40) := by
  obtain ⟨z1, z2, z3⟩ := h
  have e9 : opC σ 40 9 = σ 9 := opC_r σ (by decide) (by decide) 40
  have hx : ∀ k, k < nr → σ 28 k = 1 → (k < 40 ∧ ¬ σ 2 k = 0 ∧ σ 28 k = 1) := fun k hk g => ⟨by omega, (hp k (by omega)).mpr hk, g⟩
  refine ⟨fun k hk => ?_, ?_, fun k hk => ?_⟩
  · by_cases q : σ 28 k = 1
    · exact Or.inl ((opC_at 40 k).1 (hx k hk q)).2
    · rw [((opC_at 40 k).2 (fun z => q z.2.2)).1, ((opC_at 40 k).2 (fun z => q z.2.2)).2]; exact z1 k hk
  · rw [e9]
    rcases z2 with z | ⟨k, hk, z, g⟩
    · exact Or.inl z
    · refine Or.inr ⟨k, hk, z, ?_⟩
      rw [((opC_at 40 k).2 (fun z => by rw [g] at z; exact absurd z.2.2 (by decide))).1]; exact g
  · by_cases q : σ 28 k = 1
    · rw [((opC_at 40 k).1 (hx k hk q)).1]
      have := z3 k hk
      rw [q] at this
      exact ⟨fun z => absurd z (by decide), fun z => absurd (this.mpr z) (by decide)⟩
    · rw [((opC_at 40 k).2 (fun z => q z.2.2)).1]; exact z3 k hk
theorem ZC_st {i : Nat} (h : ZC nr C σ) (hnr : nr ≤ 40) (hi : i < nr) (h28 : σ 28 i = 0) : ZC nr C (stepC σ i) := by
  obtain ⟨z1, z2, z3⟩ := h
  have e28 : stepC σ i 28 = upd (σ 28) i 1 := by
    unfold stepC
    rw [endT_r _ i (by decide)]
    rfl
  have e30 : ∃ b, stepC σ i 30 = upd (σ 30) i b := by
    refine ⟨nI (pbC σ (nbN σ - 1)), ?_⟩
    unfold stepC
    rw [endT_r _ i (by decide)]
    rfl
  obtain ⟨b, e30⟩ := e30
  unfold ZC
  rw [e28, e30]
  refine ⟨fun k hk => ?_, ?_, fun k hk => ?_⟩
  · by_cases e : k = i
    · subst e; exact Or.inr pk_us
    · rw [pk_un e, pk_un e]; exact z1 k hk
  · by_cases q : σ 9 0 = nI (i + 1)
    · refine Or.inl ?_
      have key : ∀ μ : Mm, μ 9 = σ 9 → endT μ i 9 0 = 0 := fun μ hμ => by
        unfold endT
        rw [iF_t (by rw [hμ]; exact q)]
        exact up_self
      exact key _ rfl
    · have e9 : stepC σ i 9 0 = σ 9 0 := by
        have key : ∀ μ : Mm, μ 9 = σ 9 → endT μ i 9 0 = σ 9 0 := fun μ hμ => by
          unfold endT
          rw [iF_f (by rw [hμ]; exact q), hμ]
        exact key _ rfl
      rw [e9]
      rcases z2 with z | ⟨k, hk, z, g⟩
      · exact Or.inl z
      · refine Or.inr ⟨k, hk, z, ?_⟩
        rw [pk_un (fun e => q (by rw [z, e]))]; exact g
  · by_cases e : k = i
    · subst e
      rw [pk_us]
      have := z3 k hk
      rw [h28] at this
      exact ⟨fun z => absurd z (by decide), fun z => absurd (this.mpr z) (by decide)⟩
    · rw [pk_un e]; exact z3 k hk
theorem ZC_fill (hnr : nr ≤ 40) : ∀ (f : Nat) (σ : Mm), ZC nr C σ → PRs nr σ → ZC nr C (fillG f σ)
  | 0, σ, h, _ => h
  | f + 1, σ, h, hp => by
    cases hd : deC σ 40 with
    | none => rw [fillG_n _ hd]; exact h
    | some i =>
      rw [fillG_s _ hd]
      obtain ⟨a, b, c⟩ := deC_lt σ 40 i hd
      have hi : i < nr := (hp i a).mp b
      exact ZC_fill hnr f _ (ZC_st h hnr hi c.1) (PRs_cg (stepC_r σ i (by decide) (by decide) (by decide) (by decide)) hp)
theorem boxC_r {σ : Mm} {m r : Nat} (h1 : r ≠ 28) (h2 : r ≠ 30) (h3 : r ≠ 7) (h4 : r ≠ 8) (h5 : r ≠ 0) (h6 : r ≠ 9) : offG (fillG 40 (opB σ (nI m))) m r = σ r := by
  rw [offG_r _ h3, fillG_r h4 h1 h2 h6, opB_r σ _ h1 h2 h3 h4 h5]
theorem J_boxes (h : J nr ng np nb C π σ τ) {m : Nat} (hm : m ≤ 5) : J nr ng np m C π (offG (fillG 40 (opB σ (nI m))) m) (offG (fillG 40 (opB τ (nI m))) m) ∧ fillN 40 (opB τ (nI m)) = fillN 40 (opB σ (nI m)) := by
  have e := h.2.1
  obtain ⟨f1, f2⟩ := EQ_fill 40 _ _ (e.ob (nI m))
  have hnr := h.2.2.2.2.2.2
  refine ⟨J_s h ?_ (HZ_cg (boxC_r (by decide) (by decide) (by decide) (by decide) (by decide) (by decide)) (boxC_r (by decide) (by decide) (by decide) (by decide) (by decide) (by decide)) h.1.2.1) (BD_cg (boxC_r (by decide) (by decide) (by decide) (by decide) (by decide) (by decide)) (boxC_r (by decide) (by decide) (by decide) (by decide) (by decide) (by decide)) (boxC_r (by decide) (by decide) (by decide) (by decide) (by decide) (by decide)) h.1.2.2.1) ?_ (f1.og m) (fun q hq => boxC_r (by omega) (by omega) (by omega) (by omega) (by omega) (by omega)) (fun q hq => boxC_r (by omega) (by omega) (by omega) (by omega) (by omega) (by omega)), f2⟩
  · have e0 : offG (fillG 40 (opB σ (nI m))) m 0 = upd (σ 0) 9 (nI m) := by
      rw [offG_r _ (by decide), fillG_r (by decide) (by decide) (by decide) (by decide)]
      show upd ((upR (upR (opC σ 40) 7 (fillF (σ 7) (-1) 5)) 8 (fillF (σ 8) 0 5)) 0) 9 (nI m) = _
      rw [upR_ne (by decide), upR_ne (by decide), opC_r σ (by decide) (by decide)]
    obtain ⟨b1, b2, b3, b4, b5, b6, b7⟩ := h.1.1
    unfold B0 PRs PGs
    rw [e0, boxC_r (r := 1) (by decide) (by decide) (by decide) (by decide) (by decide) (by decide), boxC_r (r := 2) (by decide) (by decide) (by decide) (by decide) (by decide) (by decide), boxC_r (r := 11) (by decide) (by decide) (by decide) (by decide) (by decide) (by decide)]
    exact ⟨b1, b2, b3, b4, b5, ⟨rfl, hm⟩, b7⟩
  · have z0 : ZC nr C (opB σ (nI m)) := ZC_cg (σ := opC σ 40) rfl rfl rfl (ZC_op h.1.2.2.2 h.1.1.1 (by omega))
    have p0 : PRs nr (opB σ (nI m)) := PRs_cg (opB_r σ _ (by decide) (by decide) (by decide) (by decide) (by decide)) h.1.1.1
    exact ZC_cg (offG_r _ (by decide) m) (offG_r _ (by decide) m) (by rw [offG_r _ (by decide) m]) (ZC_fill (by omega) 40 _ z0 p0)
end JS


/-! ===== what the book tells is what its reference tells ===== -/
theorem RC_off {nr : Nat} {σ : Mm} (h : RC nr σ) (hnr : nr ≤ 40) : σ 9 0 = 0 ↔ σ 60 23 = -1 := by
  rcases h.2.2.1 with ⟨h1, h2⟩ | ⟨i, hi, h1, h2, -⟩
  · exact ⟨fun _ => h2, fun _ => h1⟩
  · rw [h1, h2]
    exact ⟨fun q => absurd q (nI_ne0 (by omega) (by omega)), fun q => absurd q (nI_nem1 (by omega))⟩
theorem qual_eq {σ : Mm} (a33 : σ 33 = σ 73) (hRB : RB σ) (i : Nat) : qualC σ i = qualM σ i := by
  obtain ⟨h1, h2, h3⟩ := hRB.1 i
  unfold qualC qualM
  rw [a33, h1, h2, h3]
theorem dbl_eq {σ : Mm} (a33 : σ 33 = σ 73) (hRB : RB σ) (i : Nat) : dblC σ i ↔ dblM σ i := by
  obtain ⟨h1, h2, h3⟩ := hRB.1 i
  unfold dblC dblM
  rw [a33, h1, h2]
theorem val_eq {σ : Mm} (a33 : σ 33 = σ 73) (a23 : σ 23 = σ 65) (a5 : σ 5 = σ 77) (hRB : RB σ) (i : Nat) : valC σ i = valM σ i := by
  unfold valC valM
  rw [qual_eq a33 hRB, a23, a5]
theorem gr_eq {σ : Mm} (a51 : σ 51 = σ 93) (hRB : RB σ) (i : Nat) : gradeC σ i = gradeM σ i := by
  obtain ⟨h1, h2, h3⟩ := hRB.2.1 i
  unfold gradeC gradeM
  rw [a51, h1, h2, h3]
theorem can_eq {σ : Mm} (a28 : σ 28 = σ 69) (a33 : σ 33 = σ 73) (hRB : RB σ) (i : Nat) : canC σ i ↔ canM σ i := by
  unfold canC canM
  rw [a28, a33, dbl_eq a33 hRB]
theorem iF_cg {α : Type} {P Q : Prop} {a b c d : α} (h : P ↔ Q) (h1 : Q → a = c) (h2 : ¬ Q → b = d) : iF P a b = iF Q c d := by
  by_cases q : Q
  · rw [iF_t (h.mpr q), iF_t q, h1 q]
  · rw [iF_f (fun z => q (h.mp z)), iF_f q, h2 q]
/-- over all places: the book's rows go on with nothing -/
theorem bv_eq {nr : Nat} {σ : Mm} {x : Int32} (hx : ¬ x = -1) (hp : PRs nr σ) (hz : ∀ i, nr ≤ i → σ 2 i = 0) (hF : RF nr σ) (a28 : σ 28 = σ 69) (a30 : σ 30 = σ 71) (hv : ∀ i, valC σ i = valM σ i) (hnr : nr ≤ 40) : ∀ k, k ≤ 40 → bvC σ x k = bvM σ x (Nat.min k nr)
  | 0, _ => by rw [show Nat.min 0 nr = 0 from Nat.zero_min nr]; rfl
  | k + 1, h => by
    have ih := bv_eq hx hp hz hF a28 a30 hv hnr k (by omega)
    by_cases q : k < nr
    · rw [show Nat.min (k + 1) nr = k + 1 from Nat.min_eq_left (by omega)]
      rw [show Nat.min k nr = k from Nat.min_eq_left (by omega)] at ih
      rw [bvC, bvM]
      refine iF_cg ?_ (fun _ => by rw [ih, hv]) (fun _ => ih)
      rw [← a28, ← a30]
      constructor
      · rintro ⟨-, h2⟩
        refine ⟨?_, h2⟩
        rcases hF k q with g | g | g
        · exact g.1
        · exact absurd (h2.symm.trans g.2.1) hx
        · exact absurd (h2.symm.trans g.2) hx
      · rintro ⟨h1, h2⟩
        exact ⟨(hp k (by omega)).mpr q, h2⟩
    · rw [show Nat.min (k + 1) nr = nr from Nat.min_eq_right (by omega)]
      rw [show Nat.min k nr = nr from Nat.min_eq_right (by omega)] at ih
      rw [bvC, iF_f (fun z => z.1 (hz k (by omega))), ih]
theorem rw_eq {nr : Nat} {σ : Mm} (hp : PRs nr σ) (hz : ∀ i, nr ≤ i → σ 2 i = 0) (a28 : σ 28 = σ 69) (a23 : σ 23 = σ 65) (hnr : nr ≤ 40) : ∀ k, k ≤ 40 → rwC σ k = ucM σ (Nat.min k nr)
  | 0, _ => by rw [show Nat.min 0 nr = 0 from Nat.zero_min nr]; rfl
  | k + 1, h => by
    have ih := rw_eq hp hz a28 a23 hnr k (by omega)
    by_cases q : k < nr
    · rw [show Nat.min (k + 1) nr = k + 1 from Nat.min_eq_left (by omega)]
      rw [show Nat.min k nr = k from Nat.min_eq_left (by omega)] at ih
      rw [rwC, ucM]
      have h2 := (hp k (by omega)).mpr q
      by_cases g : σ 69 k = 3
      · rw [iF_f (fun z => z.2 (by rw [a28]; exact g)), iF_t g, ih]
      · rw [iF_t ⟨h2, by rw [a28]; exact g⟩, iF_f g, ih, a23]
    · rw [show Nat.min (k + 1) nr = nr from Nat.min_eq_right (by omega)]
      rw [show Nat.min k nr = nr from Nat.min_eq_right (by omega)] at ih
      rw [rwC, iF_f (fun z => z.1 (hz k (by omega))), ih]
theorem pw_eq {ng : Nat} {σ : Mm} (hp : PGs ng σ) (hz : ∀ i, ng ≤ i → σ 11 i = 0) (a47 : σ 47 = σ 88) (hng : ng ≤ 80) : ∀ k, k ≤ 80 → pwC σ k = sumF (σ 88) (Nat.min k ng)
  | 0, _ => by rw [show Nat.min 0 ng = 0 from Nat.zero_min ng]; rfl
  | k + 1, h => by
    have ih := pw_eq hp hz a47 hng k (by omega)
    by_cases q : k < ng
    · rw [show Nat.min (k + 1) ng = k + 1 from Nat.min_eq_left (by omega)]
      rw [show Nat.min k ng = k from Nat.min_eq_left (by omega)] at ih
      rw [pwC, sumF, iF_t ((hp k (by omega)).mpr q), ih, a47]
    · rw [show Nat.min (k + 1) ng = ng from Nat.min_eq_right (by omega)]
      rw [show Nat.min k ng = ng from Nat.min_eq_right (by omega)] at ih
      rw [pwC, iF_f (fun z => z (hz k (by omega))), ih]
theorem wp_eq {ng : Nat} {σ : Mm} (hp : PGs ng σ) (hz : ∀ i, ng ≤ i → σ 11 i = 0) (a48 : σ 48 = σ 92) (hD : RD2 ng σ) (hng : ng ≤ 80) : ∀ k, k ≤ 80 → wpC σ k = wrM σ (Nat.min k ng)
  | 0, _ => by rw [show Nat.min 0 ng = 0 from Nat.zero_min ng]; rfl
  | k + 1, h => by
    have ih := wp_eq hp hz a48 hD hng k (by omega)
    by_cases q : k < ng
    · rw [show Nat.min (k + 1) ng = k + 1 from Nat.min_eq_left (by omega)]
      rw [show Nat.min k ng = k from Nat.min_eq_left (by omega)] at ih
      rw [wpC, wrM]
      refine iF_cg ?_ (fun _ => by rw [ih]) (fun _ => ih)
      rw [a48, (hD k q).2.1]
      exact ⟨fun z => z.2, fun z => ⟨(hp k (by omega)).mpr q, z⟩⟩
    · rw [show Nat.min (k + 1) ng = ng from Nat.min_eq_right (by omega)]
      rw [show Nat.min k ng = ng from Nat.min_eq_right (by omega)] at ih
      rw [wpC, iF_f (fun z => z.1 (hz k (by omega))), ih]
/-- what came of the four pits is what came -/
theorem came_eq {nr : Nat} {σ : Mm} (hpit : ∀ s, s < nr → ∃ a, a < 4 ∧ pitM σ s = nI a) : ∀ n, n ≤ nr → cmM σ 0 n + cmM σ 1 n + cmM σ 2 n + cmM σ 3 n = sumF (σ 65) n
  | 0, _ => rfl
  | n + 1, h => by
    have ih := came_eq hpit n (by omega)
    obtain ⟨a, ha, hp⟩ := hpit n (by omega)
    rw [sumF, ← ih]
    rcases (show a = 0 ∨ a = 1 ∨ a = 2 ∨ a = 3 by omega) with rfl | rfl | rfl | rfl
    · rw [cmM, cmM, cmM, cmM, hp, iF_t (show nI 0 = 0 from rfl), iF_f (show ¬ nI 0 = 1 by decide), iF_f (show ¬ nI 0 = 2 by decide), iF_f (show ¬ nI 0 = 3 by decide)]
      ac_rfl
    · rw [cmM, cmM, cmM, cmM, hp, iF_f (show ¬ nI 1 = 0 by decide), iF_t (show nI 1 = 1 from rfl), iF_f (show ¬ nI 1 = 2 by decide), iF_f (show ¬ nI 1 = 3 by decide)]
      ac_rfl
    · rw [cmM, cmM, cmM, cmM, hp, iF_f (show ¬ nI 2 = 0 by decide), iF_f (show ¬ nI 2 = 1 by decide), iF_t (show nI 2 = 2 from rfl), iF_f (show ¬ nI 2 = 3 by decide)]
      ac_rfl
    · rw [cmM, cmM, cmM, cmM, hp, iF_f (show ¬ nI 3 = 0 by decide), iF_f (show ¬ nI 3 = 1 by decide), iF_f (show ¬ nI 3 = 2 by decide), iF_t (show nI 3 = 3 from rfl)]
      ac_rfl
theorem cmM_cg2 {σ τ : Mm} (h3 : ∀ s, τ 65 s = σ 65 s) (x : Int32) : ∀ n, (∀ s, s < n → pitM τ s = pitM σ s) → cmM τ x n = cmM σ x n
  | 0, _ => rfl
  | n + 1, h => by rw [cmM, cmM, cmM_cg2 h3 x n (fun s hs => h s (by omega)), h n (by omega), h3]
theorem cmM_bd {nr : Nat} {σ : Mm} (hw : ∀ i, i < nr → ∃ W, W ≤ 9999 ∧ σ 65 i = nI W) (x : Int32) : ∀ n, n ≤ nr → ∃ N, N ≤ 9999 * n ∧ cmM σ x n = nI N
  | 0, _ => ⟨0, Nat.le_refl _, rfl⟩
  | n + 1, h => by
    obtain ⟨N, h1, h2⟩ := cmM_bd hw x n (by omega)
    obtain ⟨W, h3, h4⟩ := hw n (by omega)
    by_cases q : pitM σ n = x
    · exact ⟨N + W, by omega, by rw [cmM, iF_t q, h2, h4]; exact nI_add N W⟩
    · exact ⟨N, by omega, by rw [cmM, iF_f q, h2]⟩
/-- a paper is given where its weight is left -/
theorem left_iff {C V W : Nat} (hC : C < 2 ^ 29) (hV : V ≤ C) (hW : W < 2 ^ 29) : (0 ≤ nI C - nI V - nI W ↔ nI V + nI W ≤ nI C) ∧ (V + W ≤ C → nI C - nI V - nI W = nI (C - V - W)) := by
  have e1 : nI C - nI V = nI (C - V) := pk_sub hV
  have e2 : nI V + nI W = nI (V + W) := nI_add V W
  rw [e1, e2, nI_leI (by omega) (by omega)]
  refine ⟨?_, fun h => pk_sub (by omega)⟩
  have h3 := pk_sub_toInt (a := C - V) (b := W) (by omega) (by omega)
  rw [Int32.le_iff_toInt_le, h3]
  have h0 : (0 : Int32).toInt = 0 := rfl
  rw [h0]
  omega
theorem upd_p {h : Nat → Int32} {i p : Nat} {x : Int32} (P : Int32 → Prop) (h1 : P x) (h2 : P (h p)) : P (upd h i x p) := by
  unfold upd
  by_cases e : p = i
  · rw [if_pos e]; exact h1
  · rw [if_neg e]; exact h2
theorem upd_s {h : Nat → Int32} {i : Nat} {x : Int32} (e : h i = x) : upd h i x = h := by
  funext p
  unfold upd
  by_cases g : p = i
  · rw [if_pos g, g, e]
  · rw [if_neg g]
theorem less_bd {x y : Int32} (h0 : 0 ≤ x ∧ x ≤ 9999) (hy : 1 ≤ y ∧ y ≤ x - 1) : 0 ≤ y ∧ y ≤ 9999 := by
  obtain ⟨W, hW1, hW2, hW3⟩ := rg_of (a := 0) (b := 9999) (by decide) h0
  rcases (show W = 0 ∨ 1 ≤ W by omega) with e | e
  · subst e
    rw [hW3] at hy
    have h1 := Int32.le_iff_toInt_le.mp hy.1
    have h2 := Int32.le_iff_toInt_le.mp hy.2
    have h3 : (nI 0 - 1).toInt = -1 := by decide
    have h4 : (1 : Int32).toInt = 1 := rfl
    omega
  · rw [hW3, show nI W - 1 = nI (W - 1) from pk_sub (b := 1) e] at hy
    obtain ⟨m, h1, h2, h3⟩ := rg_of (a := 0) (b := W - 1) ⟨by omega, by omega⟩ ⟨Int32.le_trans (b := 1) (by decide) hy.1, hy.2⟩
    rw [h3]
    exact ⟨nI_pos' (by omega), (nI_leI (b := 9999) (by omega) (by decide)).mpr (by omega)⟩
theorem tw_eq {σ : Mm} (a10 : σ 10 = σ 85) (a6 : σ 6 = σ 82) (h1 : σ 9 1 = σ 60 24) (h0 : 0 ≤ σ 9 1) : ∀ k, twC σ k = twM σ k
  | 0 => rfl
  | k + 1 => by
    have ih := tw_eq a10 a6 h1 h0 k
    rw [twC, twM]
    refine iF_cg ?_ (fun _ => rfl) (fun _ => ih)
    rw [ih, a10, a6, h1]
    constructor
    · rintro ⟨g1, g2⟩
      refine ⟨⟨fun z => ?_, g1⟩, g2⟩
      rw [z, ← h1] at g1
      have := Int32.le_trans h0 g1
      exact absurd this (by decide)
    · rintro ⟨⟨-, g1⟩, g2⟩
      exact ⟨g1, g2⟩
theorem twM_cg {σ τ : Mm} (h1 : τ 85 = σ 85) (h2 : τ 60 24 = σ 60 24) (h3 : τ 82 = σ 82) : ∀ k, twM τ k = twM σ k
  | 0 => rfl
  | k + 1 => by
    have ih := twM_cg h1 h2 h3 k
    rw [twM, twM, ih, h1, h2, h3]
theorem pyM_cg {σ τ : Mm} (h1 : τ 85 = σ 85) (h2 : τ 60 24 = σ 60 24) (w : Int32) : ∀ k, pyM τ w k = pyM σ w k
  | 0 => h2
  | k + 1 => by
    have ih := pyM_cg h1 h2 w k
    rw [pyM, pyM, ih, h1]
theorem py_eq {σ : Mm} (a10 : σ 10 = σ 85) (h1 : σ 9 1 = σ 60 24) (w : Int32) : ∀ k, payC σ w k = pyM σ w k
  | 0 => h1
  | k + 1 => by
    have ih := py_eq a10 h1 w k
    rw [payC, pyM, ih, a10]
    unfold mxI
    by_cases q : nI k = w
    · rw [iF_t q, iF_f (fun z => z.1 q)]
    · rw [iF_f q]
      by_cases g : pyM σ w k < σ 85 k
      · rw [if_pos g, iF_t ⟨q, g⟩]
      · rw [if_neg g, iF_f (fun z => g z.2)]
theorem clM_cg {σ τ : Mm} (h1 : τ 85 = σ 85) (h2 : τ 60 24 = σ 60 24) (h3 : τ 82 = σ 82) (i : Nat) : clM τ i = iF (twM σ 5 = -1) (up τ 60 23 (-1)) (up (up (up (up τ 60 23 (-1)) 72 i (pyM σ (twM σ 5) 5)) 70 i (twM σ 5)) 69 i 2) := by
  unfold clM
  rw [twM_cg h1 h2 h3 5, pyM_cg h1 h2 _ 5]
theorem cmM_up {σ : Mm} {r j : Nat} {v x : Int32} {n : Nat} (h : r ≠ 62 ∧ r ≠ 64 ∧ r ≠ 65) : cmM (up σ r j v) x n = cmM σ x n := cmM_cg (up_ne (Ne.symm h.1)) (up_ne (Ne.symm h.2.1)) (up_ne (Ne.symm h.2.2)) x n
theorem bvM_cg {σ τ : Mm} (h1 : τ 69 = σ 69) (h2 : τ 71 = σ 71) (h3 : ∀ s, valM τ s = valM σ s) (x : Int32) : ∀ n, bvM τ x n = bvM σ x n
  | 0 => rfl
  | n + 1 => by rw [bvM, bvM, bvM_cg h1 h2 h3 x n, h1, h2, h3]
theorem valM_up {σ : Mm} {r j : Nat} {v : Int32} {s : Nat} (h : r < 60 ∨ r = 60 ∨ 80 ≤ r) : valM (up σ r j v) s = valM σ s := by
  unfold valM qualM
  rw [up_ne (by omega), up_ne (by omega), up_ne (by omega), up_ne (by omega)]
theorem bvM_up {σ : Mm} {r j : Nat} {v x : Int32} {n : Nat} (h : r < 60 ∨ r = 60 ∨ 80 ≤ r) : bvM (up σ r j v) x n = bvM σ x n := bvM_cg (up_ne (by omega)) (up_ne (by omega)) (fun _ => valM_up h) x n
theorem ucM_cg {σ τ : Mm} (h1 : τ 69 = σ 69) (h2 : τ 65 = σ 65) : ∀ n, ucM τ n = ucM σ n
  | 0 => rfl
  | n + 1 => by rw [ucM, ucM, ucM_cg h1 h2 n, h1, h2]
theorem wrM_cg {σ τ : Mm} (h1 : τ 92 = σ 92) (h2 : ∀ p, orgM τ p = orgM σ p) : ∀ n, wrM τ n = wrM σ n
  | 0 => rfl
  | n + 1 => by rw [wrM, wrM, wrM_cg h1 h2 n, h1, h2]
theorem alM_up {σ : Mm} {nr ng : Nat} {a b y : Int32} : alM (up (up σ 99 0 a) 60 0 b) nr ng y = alM σ nr ng y := by
  unfold alM
  rw [ucM_cg (σ := σ) (τ := up (up σ 99 0 a) 60 0 b) rfl rfl, wrM_cg (σ := σ) (τ := up (up σ 99 0 a) 60 0 b) rfl (fun _ => rfl)]
  rfl
theorem qOK_M {σ : Mm} (hb : ∀ j, bd18 (σ 74 j)) (s : Nat) : qOK (qualM σ s) := by
  by_cases h : σ 73 s = 0
  · exact Or.inl (qual_0 h)
  · exact Or.inr (bd_ix (qual_bd (n := σ 73 s) (hb (3 * s)) (hb (3 * s + 1)) (hb (3 * s + 2)) h))
theorem bd_T {x : Int32} {M : Nat} (hM : M ≤ 18) : bd18 (mxI 0 (mnI (nI M) x)) := by
  have hM0 : (0 : Int32) ≤ nI M := nI_pos' (by omega)
  have hM1 : nI M ≤ 18 := (nI_leI (b := 18) (by omega) (by decide)).mpr hM
  unfold mxI mnI
  by_cases h : x < nI M
  · rw [if_pos h]
    by_cases g : 0 < x
    · rw [if_pos g]; exact ⟨Int32.le_of_lt g, Int32.le_trans (Int32.le_of_lt h) hM1⟩
    · rw [if_neg g]; exact b18_0
  · rw [if_neg h]
    by_cases g : 0 < nI M
    · rw [if_pos g]; exact ⟨hM0, hM1⟩
    · rw [if_neg g]; exact b18_0
/-- one more opinion, in rows of three and in one row -/
theorem op_eq {F G H W : Nat → Int32} {i c : Nat} {n t u : Int32} (hc : c < 3) (hn : n = nI c) (hu : u = t) (h : ∀ s, F s = W (3 * s) ∧ G s = W (3 * s + 1) ∧ H s = W (3 * s + 2)) (s : Nat) : upd F i (iF (n = 0) t (F i)) s = upd W (3 * i + c) u (3 * s) ∧ upd G i (iF (n = 1) t (G i)) s = upd W (3 * i + c) u (3 * s + 1) ∧ upd H i (iF (¬ n = 0 ∧ ¬ n = 1) t (H i)) s = upd W (3 * i + c) u (3 * s + 2) := by
  subst hu
  obtain ⟨h1, h2, h3⟩ := h s
  by_cases e : s = i
  · subst e
    rw [pk_us, pk_us, pk_us, hn]
    rcases (show c = 0 ∨ c = 1 ∨ c = 2 by omega) with rfl | rfl | rfl
    · rw [iF_t (show nI 0 = 0 from rfl), iF_f (show ¬ nI 0 = 1 by decide), iF_f (fun z => z.1 rfl), Nat.add_zero, pk_us, pk_un (by omega), pk_un (by omega)]
      exact ⟨rfl, h2, h3⟩
    · rw [iF_f (show ¬ nI 1 = 0 by decide), iF_t (show nI 1 = 1 from rfl), iF_f (fun z => z.2 rfl), pk_us, pk_un (by omega), pk_un (by omega)]
      exact ⟨h1, rfl, h3⟩
    · rw [iF_f (show ¬ nI 2 = 0 by decide), iF_f (show ¬ nI 2 = 1 by decide), iF_t (show ¬ nI 2 = 0 ∧ ¬ nI 2 = 1 by decide), pk_us, pk_un (by omega), pk_un (by omega)]
      exact ⟨h1, h2, rfl⟩
  · rw [pk_un e, pk_un e, pk_un e, pk_un (by omega), pk_un (by omega), pk_un (by omega)]
    exact ⟨h1, h2, h3⟩

/-! ===== the two books: stones put in, polished stones made, cut again, looked at, with papers ===== -/
def gL : List Nat := [40, 41, 42, 43, 44, 45, 47, 48, 50, 51, 52, 53, 54]
def smW (w : Nat → Int32) : List (Nat × Nat) → Int32
  | [] => 0
  | q :: t => w q.2 + smW w t
theorem smW_app (w : Nat → Int32) : ∀ a b : List (Nat × Nat), smW w (a ++ b) = smW w a + smW w b
  | [], b => by
    show smW w b = 0 + smW w b
    grind
  | q :: t, b => by
    show w q.2 + smW w (t ++ b) = w q.2 + smW w t + smW w b
    rw [smW_app w t b]
    grind
theorem smW_rev (w : Nat → Int32) : ∀ l : List (Nat × Nat), smW w (l.reverse.map (fun q => (12 - q.1 - q.2, q.2))) = smW w l
  | [] => rfl
  | q :: t => by
    rw [List.reverse_cons, List.map_append, smW_app, smW_rev w t]
    show smW w t + (w q.2 + 0) = w q.2 + smW w t
    grind
def rowG (σ : Mm) (i c n r : Nat) : Int32 := if r = 40 then σ 20 i else if r = 41 then σ 25 i else if r = 42 then σ 22 i else if r = 43 then σ 29 i else if r = 44 then nI c else if r = 45 then nI n else if r = 47 then nI n * σ 23 i / 12 * 60 / 100 else if r = 48 then -1 else 0
theorem rowG_cg {σ τ : Mm} {i c n r : Nat} (h1 : τ 20 = σ 20) (h2 : τ 25 = σ 25) (h3 : τ 22 = σ 22) (h4 : τ 29 = σ 29) (h5 : τ 23 = σ 23) : rowG τ i c n r = rowG σ i c n r := by
  unfold rowG
  rw [h1, h2, h3, h4, h5]
theorem gemC_L {μ : Mm} {N i k n : Nat} : ∀ r, r ∈ gL → gemC μ N i k n r = upd (μ r) N (rowG μ i k n r) := fun r hr => by
  simp only [gL, List.mem_cons, List.not_mem_nil, or_false] at hr
  rcases hr with rfl | rfl | rfl | rfl | rfl | rfl | rfl | rfl | rfl | rfl | rfl | rfl | rfl <;> rfl
theorem cgP {σ : Mm} {g i F : Nat} (hF : σ 26 i = nI F) (h31 : F < 2 ^ 31) (h12 : σ 0 12 = nI g) : ∀ k, k ≤ 12 → (∀ j, j ≠ 12 → j ≠ 13 → cgC σ g i k 0 j = σ 0 j) ∧ cgC σ g i k 0 12 = nI (g + (cl F k).length) ∧ cgC σ g i k 0 13 = σ 0 13 + σ 23 i - smW (gemW σ i) (cl F k) ∧ (∀ j, cgC σ g i k 11 j = if g ≤ j ∧ j < g + (cl F k).length then 1 else σ 11 j) ∧ (∀ r, r ∈ gL → ∀ j, j < g → cgC σ g i k r j = σ r j) ∧ ∀ j c n, (cl F k)[j]? = some (c, n) → ∀ r, r ∈ gL → cgC σ g i k r (g + j) = rowG σ i c n r
  | 0, _ => by
    have e0 : ∀ j, j ≠ 13 → cgC σ g i 0 0 j = σ 0 j := fun j hj => pk_un hj
    refine ⟨fun j _ h => e0 j h, (e0 12 (by decide)).trans h12, ?_, fun j => ?_, fun r hr j hj => ?_, fun j c n h => ?_⟩
    · show upd (σ 0) 13 (σ 0 13 + σ 23 i) 13 = σ 0 13 + σ 23 i - 0
      rw [pk_us]
      grind
    · rw [if_neg (fun q => by have : j < g + 0 := q.2; omega)]
      rfl
    · have : r ≠ 0 := fun e => by subst e; exact absurd hr (by decide)
      show up σ 0 13 (σ 0 13 + σ 23 i) r j = _
      rw [up_ne this]
    · cases h
  | k + 1, hk => by
    obtain ⟨i1, i2, i3, i4, i5, i6⟩ := cgP hF h31 h12 k (by omega)
    have hr : ∀ {r : Nat}, r ≠ 0 → r ≠ 11 → r < 40 → cgC σ g i k r = σ r := fun a b c => cgC_r σ g i a b (Or.inl c) k
    by_cases q : 0 < pN F k
    · have ec : cl F (k + 1) = cl F k ++ [(k, pN F k)] := if_pos q
      have eg : cgC σ g i (k + 1) = gemC (cgC σ g i k) (g + (cl F k).length) i k (pN F k) := by
        rw [cgC, hF, pN_eq h31 (by omega), iF_t q, pcN_eq h31 k (by omega)]
      have el : (cl F k ++ [(k, pN F k)]).length = (cl F k).length + 1 := by rw [List.length_append]; rfl
      obtain ⟨μ, hμ⟩ : ∃ μ, cgC σ g i k = μ := ⟨_, rfl⟩
      obtain ⟨N, hN⟩ : ∃ N, g + (cl F k).length = N := ⟨_, rfl⟩
      rw [hμ] at i1 i2 i3 i4 i5 i6 eg
      rw [hN] at i2 i4 eg
      have hrow : ∀ r, r ∈ gL → gemC μ N i k (pN F k) r = upd (μ r) N (rowG σ i k (pN F k) r) := fun r hr2 => by
        rw [gemC_L r hr2, rowG_cg (σ := σ) (τ := μ) (by rw [← hμ]; exact hr (by decide) (by decide) (by decide)) (by rw [← hμ]; exact hr (by decide) (by decide) (by decide)) (by rw [← hμ]; exact hr (by decide) (by decide) (by decide)) (by rw [← hμ]; exact hr (by decide) (by decide) (by decide)) (by rw [← hμ]; exact hr (by decide) (by decide) (by decide))]
      have gw : gemW μ i (pN F k) = gemW σ i (pN F k) := by
        unfold gemW
        rw [← hμ, hr (by decide) (by decide) (by decide)]
      rw [eg, ec, el]
      refine ⟨fun j a b => ?_, ?_, ?_, fun j => ?_, fun r hr2 j hj => ?_, fun j c n h r hr2 => ?_⟩
      · show upd (upd (μ 0) 12 (nI (N + 1))) 13 (μ 0 13 - gemW μ i (pN F k)) j = _
        rw [pk_un b, pk_un a]; exact i1 j a b
      · show upd (upd (μ 0) 12 (nI (N + 1))) 13 (μ 0 13 - gemW μ i (pN F k)) 12 = _
        rw [pk_un (by decide), pk_us, ← Nat.add_assoc, hN]
      · show upd (upd (μ 0) 12 (nI (N + 1))) 13 (μ 0 13 - gemW μ i (pN F k)) 13 = _
        rw [pk_us, gw, i3, smW_app]
        show _ = _ - (_ + (gemW σ i (pN F k) + 0))
        grind
      · show upd (μ 11) N 1 j = _
        by_cases e : j = N
        · subst e
          rw [pk_us, if_pos ⟨by omega, by omega⟩]
        · rw [pk_un e, i4]
          by_cases z : g ≤ j ∧ j < N
          · rw [if_pos z, if_pos ⟨z.1, by omega⟩]
          · rw [if_neg z, if_neg (fun y => z ⟨y.1, by omega⟩)]
      · rw [hrow r hr2, pk_un (by omega)]; exact i5 r hr2 j hj
      · rw [hrow r hr2]
        by_cases hj : j < (cl F k).length
        · rw [List.getElem?_append_left hj] at h
          rw [pk_un (by omega)]; exact i6 j c n h r hr2
        · rw [List.getElem?_append_right (by omega)] at h
          have hj0 : j - (cl F k).length = 0 := by
            have := (List.getElem?_eq_some_iff.mp h).1
            have h1 : [(k, pN F k)].length = 1 := rfl
            omega
          rw [hj0] at h
          cases h
          rw [show g + j = N by omega, pk_us]
    · have ec : cl F (k + 1) = cl F k := if_neg q
      have eg : cgC σ g i (k + 1) = cgC σ g i k := by
        rw [cgC, hF, pN_eq h31 (by omega), iF_f q]
      rw [ec, eg]
      exact ⟨i1, i2, i3, i4, i5, i6⟩
section JG
variable {nr ng np nb : Nat} {C : Nat → Prop} {π : Nat → Nat} {σ τ : Mm}
theorem J_013 (x : Int32) (h : J nr ng np nb C π σ τ) : J nr ng np nb C π (up σ 0 13 x) (up τ 0 13 x) :=
  J_s h h.1.1 (HZ_cg rfl rfl h.1.2.1) (BD_cg rfl rfl rfl h.1.2.2.1) (ZC_cg rfl rfl rfl h.1.2.2.2) (EQ_up h.2.1 _ _ _) (fun q hq => up_ne (by omega)) (fun q hq => up_ne (by omega))
/-- one word of a polished stone and of the one that it is at the other end -/
theorem J_g {r i : Nat} (x : Int32) (hr : r = 47 ∨ r = 48 ∨ (50 ≤ r ∧ r ≤ 54)) (hi : i < ng) (h : J nr ng np nb C π σ τ) : J nr ng np nb C π (up σ r i x) (up τ r (π i) x) := by
  obtain ⟨⟨hb, hz, hd, hc⟩, he, hf, hg, hp, hl⟩ := h
  refine ⟨⟨B0_cg (up_ne (by omega)) (up_ne (by omega)) (up_ne (by omega)) (up_ne (by omega)) hb, HZ_cg (up_ne (by omega)) (up_ne (by omega)) hz, BD_cg (up_ne (by omega)) (up_ne (by omega)) (up_ne (by omega)) hd, ZC_cg (up_ne (by omega)) (up_ne (by omega)) (by rw [up_ne (by omega)]) hc⟩, EQ_g he (by omega), fun k hk => ?_, fun k hk => ⟨fun q hq => ?_, ?_⟩, hp, hl⟩
  · rw [up_ne (by omega), up_ne (by omega)]; exact hf k hk
  · by_cases e : q = r
    · subst e
      rw [up_eq, up_eq]
      by_cases e2 : k = i
      · subst e2; rw [pk_us, pk_us]
      · rw [pk_un (fun z => e2 (hp.2 k i hk hi z)), pk_un e2]; exact (hg k hk).1 q hq
    · rw [up_ne e, up_ne e]; exact (hg k hk).1 q hq
  · rw [up_ne (by omega), up_ne (by omega), up_ne (by omega)]; exact (hg k hk).2
theorem J.at (h : J nr ng np nb C π σ τ) {k : Nat} (hk : k < ng) (r : Nat) (hr : r ∈ gR) : τ r (π k) = σ r k := (h.2.2.2.1 k hk).1 r hr
theorem J.gr (h : J nr ng np nb C π σ τ) {k : Nat} (hk : k < ng) : gradeC τ (π k) = gradeC σ k := by
  unfold gradeC
  rw [h.at hk 51 (by decide), h.at hk 52 (by decide), h.at hk 53 (by decide), h.at hk 54 (by decide)]
theorem J.po (h : J nr ng np nb C π σ τ) {k : Nat} (hk : k < ng) {y : Int32} (hy : ¬ y = 2) : poC τ (π k) y = poC σ k y := by
  unfold poC
  rw [iF_f hy, iF_f hy, h.gr hk, h.at hk 40 (by decide), h.at hk 47 (by decide), h.at hk 45 (by decide), h.at hk 43 (by decide), h.at hk 48 (by decide), h.at hk 42 (by decide)]
theorem po2 (μ : Mm) (k : Nat) : poC μ k 2 = μ 44 k := by
  unfold poC
  rw [iF_f (by decide), iF_f (by decide), iF_t rfl]
theorem po3 (μ : Mm) (k : Nat) : poC μ k 3 = μ 45 k := by
  unfold poC
  rw [iF_f (by decide), iF_f (by decide), iF_f (by decide), iF_t rfl]
theorem J.ends (h : J nr ng np nb C π σ τ) {k : Nat} (hk : k < ng) : poC σ k 2 + poC σ k 3 + poC τ (π k) 2 = 12 := by
  rw [po2, po3, po2]; exact (h.2.2.2.1 k hk).2
theorem pw_S (μ : Mm) : ∀ n, pwC μ n = sumF (fun k => iF (¬ μ 11 k = 0) (μ 47 k) 0) n
  | 0 => rfl
  | n + 1 => by
    rw [pwC, sumF, ← pw_S μ n]
    by_cases q : ¬ μ 11 n = 0
    · rw [iF_t q, iF_t q]
    · rw [iF_f q, iF_f q]; grind
theorem wp_S (μ : Mm) : ∀ n, wpC μ n = sumF (fun k => iF (¬ μ 11 k = 0 ∧ ¬ μ 48 k = -1 ∧ ¬ μ 48 k = μ 42 k) 1 0) n
  | 0 => rfl
  | n + 1 => by
    rw [wpC, sumF, ← wp_S μ n]
    by_cases q : ¬ μ 11 n = 0 ∧ ¬ μ 48 n = -1 ∧ ¬ μ 48 n = μ 42 n
    · rw [iF_t q, iF_t q]
    · rw [iF_f q, iF_f q]; grind
/-- the order in which polished stones lie, over all eighty places -/
def pX (ng : Nat) (π : Nat → Nat) (k : Nat) : Nat := if k < ng then π k else k
theorem J.sum (h : J nr ng np nb C π σ τ) {f g : Nat → Int32} (h1 : ∀ k, k < ng → f k = g (π k)) (h2 : ∀ k, ng ≤ k → k < 80 → f k = g k) : sumF f 80 = sumF g 80 := by
  have hp := h.2.2.2.2.1
  have hn := h.ng56
  refine sumF_pm 80 f g (pX ng π) (fun i hi => ?_) (fun a b ha hb e => ?_) (fun i hi => ?_)
  · unfold pX
    by_cases q : i < ng
    · rw [if_pos q]; have := hp.1 i q; omega
    · rw [if_neg q]; exact hi
  · unfold pX at e
    by_cases qa : a < ng
    · have := hp.1 a qa
      by_cases qb : b < ng
      · rw [if_pos qa, if_pos qb] at e; exact hp.2 a b qa qb e
      · rw [if_pos qa, if_neg qb] at e; omega
    · by_cases qb : b < ng
      · have := hp.1 b qb
        rw [if_neg qa, if_pos qb] at e; omega
      · rw [if_neg qa, if_neg qb] at e; exact e
  · unfold pX
    by_cases q : i < ng
    · rw [if_pos q]; exact h1 i q
    · rw [if_neg q]; exact h2 i (by omega) hi
theorem J.pw (h : J nr ng np nb C π σ τ) : pwC τ 80 = pwC σ 80 := by
  have e11 := h.2.1 11 (by decide) (by decide)
  have hg := h.1.1.2.1
  have hn := h.ng56
  rw [pw_S, pw_S]
  refine (h.sum (fun k hk => ?_) (fun k h1 h2 => ?_)).symm
  · rw [iF_t ((hg k (by omega)).mpr hk), e11, iF_t ((hg (π k) (by have := h.2.2.2.2.1.1 k hk; omega)).mpr (h.2.2.2.2.1.1 k hk)), h.at hk 47 (by decide)]
  · have : ¬ ¬ σ 11 k = 0 := fun z => by have := (hg k h2).mp z; omega
    rw [e11, iF_f this, iF_f this]
theorem J.wp (h : J nr ng np nb C π σ τ) : wpC τ 80 = wpC σ 80 := by
  have e11 := h.2.1 11 (by decide) (by decide)
  have hg := h.1.1.2.1
  have hn := h.ng56
  rw [wp_S, wp_S]
  refine (h.sum (fun k hk => ?_) (fun k h1 h2 => ?_)).symm
  · have a1 := (hg k (by omega)).mpr hk
    have a2 := (hg (π k) (by have := h.2.2.2.2.1.1 k hk; omega)).mpr (h.2.2.2.2.1.1 k hk)
    rw [e11, h.at hk 48 (by decide), h.at hk 42 (by decide)]
    by_cases q : ¬ σ 48 k = -1 ∧ ¬ σ 48 k = σ 42 k
    · rw [iF_t ⟨a1, q⟩, iF_t ⟨a2, q⟩]
    · rw [iF_f (fun z => q z.2), iF_f (fun z => q z.2)]
  · have : ¬ ¬ σ 11 k = 0 := fun z => by have := (hg k h2).mp z; omega
    rw [e11, iF_f (fun z => this z.1), iF_f (fun z => this z.1)]
theorem J.al (h : J nr ng np nb C π σ τ) (y : Int32) : alC τ y = alC σ y := by
  have e := h.2.1
  unfold alC
  rw [h.pw, h.wp, e.rw, e 13 (by decide) (by decide), e 14 (by decide) (by decide), e 0 (by decide) (by decide)]
theorem J.pl (h : J nr ng np nb C π σ τ) {i : Nat} (hi : i < nr) : plS (τ 26 i) 12 = plS (σ 26 i) 12 := by
  obtain ⟨F, hF, h1, h2⟩ := h.2.2.1 i hi
  obtain ⟨r1, -, r3, -⟩ := rv_all hF
  rw [h1, h2, psF_eq (by omega) 12 (by omega), psF_eq (by omega) 12 (by omega), r3]
theorem J_recut (h : J nr ng np nb C π σ τ) {i : Nat} (hi : i < ng) (y : Int32) : J nr ng np nb C π (up (up σ 47 i y) 0 13 (σ 0 13 + (σ 47 i - y))) (up (up τ 47 (π i) y) 0 13 (τ 0 13 + (τ 47 (π i) - y))) := by
  rw [h.at hi 47 (by decide), h.2.1 0 (by decide) (by decide)]
  exact J_013 _ (J_g y (Or.inl rfl) hi h)
theorem J_paper (h : J nr ng np nb C π σ τ) {i : Nat} (hi : i < ng) (j : Nat) : J nr ng np nb C π (up (up σ 48 i (nI j)) 14 j (σ 14 j + σ 47 i)) (up (up τ 48 (π i) (nI j)) 14 j (τ 14 j + τ 47 (π i))) := by
  rw [h.at hi 47 (by decide), h.2.1 14 (by decide) (by decide)]
  exact J_1 14 j _ (by omega) (J_g _ (Or.inr (Or.inl rfl)) hi h)
def loC (σ : Mm) (j i : Nat) : Int32 := mxI 0 (mnI 9 (σ 41 i + σ 12 j))
noncomputable def lkC (σ : Mm) (j i : Nat) (t : Int32) : Mm := up (up (up (up (up σ 50 i (σ 50 i ||| ((1 : Int32) <<< (nI j &&& 31)))) 51 i (σ 51 i + 1)) 52 i (iF (σ 51 i = 0) t (σ 52 i))) 53 i (iF (σ 51 i = 1) t (σ 53 i))) 54 i (iF (¬ σ 51 i = 0 ∧ ¬ σ 51 i = 1) t (σ 54 i))
theorem J_look (h : J nr ng np nb C π σ τ) {i : Nat} (hi : i < ng) (j : Nat) : J nr ng np nb C π (lkC σ j i (loC σ j i)) (lkC τ j (π i) (loC τ j (π i))) ∧ loC τ j (π i) = loC σ j i := by
  have e1 : loC τ j (π i) = loC σ j i := by unfold loC; rw [h.at hi 41 (by decide), h.2.1 12 (by decide) (by decide)]
  refine ⟨?_, e1⟩
  rw [e1]
  unfold lkC
  rw [h.at hi 50 (by decide), h.at hi 51 (by decide), h.at hi 52 (by decide), h.at hi 53 (by decide), h.at hi 54 (by decide)]
  exact J_g _ (by omega) hi (J_g _ (by omega) hi (J_g _ (by omega) hi (J_g _ (by omega) hi (J_g _ (by omega) hi h))))

theorem stC_g {n b a : Nat} {x2 x3 x4 x5 : Int32} {r : Nat} (h : 40 ≤ r) : stC σ n b a x2 x3 x4 x5 r = σ r := by
  unfold stC
  rw [up_ne (by omega), up_ne (by omega), up_ne (by omega), nuR_r σ (Or.inr h)]
theorem EQ_nuR (h : EQ σ τ) (n : Nat) (x1 x2 x3 x4 x5 x6 x7 : Int32) : EQ (nuR σ n x1 x2 x3 x4 x5 x6) (nuR τ n x1 x2 x3 x4 x5 x7) := by
  unfold nuR
  exact EQ_up (EQ_up (EQ_up (EQ_up (EQ_up (EQ_up (EQ_up (EQ_up (EQ_up (EQ_26 (EQ_up (EQ_up (EQ_up (EQ_up (EQ_up (EQ_up h _ _ _) _ _ _) _ _ _) _ _ _) _ _ _) _ _ _)) _ _ _) _ _ _) _ _ _) _ _ _) _ _ _) _ _ _) _ _ _) _ _ _) _ _ _
theorem J_stone (h : J nr ng np nb C π σ τ) (hn : nr < 14) {b a F : Nat} (hF : F < 4096) (x2 x3 x4 : Int32) : J (nr + 1) ng np nb (fun i => i < nr ∧ C i) π (stC σ nr b a x2 x3 x4 (nI F)) (stC τ nr b a x2 x3 x4 (nI (rvN F 12))) := by
  obtain ⟨⟨⟨b1, b2, b3, b4, b5, b6, b7⟩, hz, hd, hc⟩, he, hf, hg, hp, hl1, hl2⟩ := h
  have c2 : stC σ nr b a x2 x3 x4 (nI F) 2 = upd (σ 2) nr 1 := rfl
  have c0 : stC σ nr b a x2 x3 x4 (nI F) 0 = upd (σ 0) 3 (nI (nr + 1)) := rfl
  refine ⟨⟨⟨fun i hi => ?_, b2, b3, ?_, b5, b6, b7⟩, ⟨fun i hi => ?_, hz.2⟩, fun p => ⟨?_, ?_, ?_⟩, ⟨fun i hi => ?_, ?_, fun i hi => ?_⟩⟩, ?_, fun i hi => ?_, fun k hk => ⟨fun r hr => ?_, ?_⟩, hp, ?_, by omega⟩
  · rw [c2]
    by_cases e : i = nr
    · subst e; rw [pk_us]; exact ⟨fun _ => by omega, fun _ => by decide⟩
    · rw [pk_un e, b1 i hi]; omega
  · rw [c0, pk_us]
  · rw [c2, pk_un (by omega)]; exact hz.1 i (by omega)
  · exact bdu (h := σ 34) (fun p => (hd p).1) b18_0 p
  · exact bdu (h := σ 35) (fun p => (hd p).2.1) b18_0 p
  · exact bdu (h := σ 36) (fun p => (hd p).2.2) b18_0 p
  · show upd (σ 30) nr (-1) i = -1 ∨ upd (σ 28) nr 0 i = 1
    by_cases e : i = nr
    · subst e; exact Or.inl pk_us
    · rw [pk_un e, pk_un e]; exact hc.1 i (by omega)
  · rcases hc.2.1 with z | ⟨k, hk, z, g⟩
    · exact Or.inl z
    · refine Or.inr ⟨k, by omega, z, ?_⟩
      show upd (σ 28) nr 0 k = 0
      rw [pk_un (by omega)]; exact g
  · show upd (σ 28) nr 0 i = 3 ↔ _
    by_cases e : i = nr
    · subst e
      rw [pk_us]
      exact ⟨fun z => absurd z (by decide), fun z => absurd z.1 (by omega)⟩
    · rw [pk_un e, hc.2.2 i (by omega)]
      exact ⟨fun z => ⟨by omega, z⟩, fun z => z.2⟩
  · unfold stC
    rw [he 13 (by decide) (by decide)]
    exact EQ_up (EQ_up (EQ_up (EQ_nuR he _ _ _ _ _ _ _ _) _ _ _) _ _ _) _ _ _
  · show ∃ G, G < 4096 ∧ upd (σ 26) nr (nI F) i = nI G ∧ upd (τ 26) nr (nI (rvN F 12)) i = nI (rvN G 12)
    by_cases e : i = nr
    · subst e; exact ⟨F, hF, pk_us, pk_us⟩
    · rw [pk_un e, pk_un e]; exact hf i (by omega)
  · have h40 : 40 ≤ r := by
      simp only [gR, List.mem_cons, List.not_mem_nil, or_false] at hr
      omega
    rw [stC_g h40, stC_g h40]; exact (hg k hk).1 r hr
  · rw [stC_g (by decide), stC_g (by decide), stC_g (by decide)]; exact (hg k hk).2
  · have : cN (fun i => i < nr ∧ C i) nr = cN C nr := cN_cg nr (fun i hi => ⟨fun z => z.2, fun z => ⟨hi, z⟩⟩)
    rw [cN, this]; omega
theorem cutC_r {g i r : Nat} (h1 : r ≠ 9) (h2 : r ≠ 28) : cutC σ g i r = cgC σ g i 12 r := by
  unfold cutC
  rw [endT_r _ i h1, up_ne h2]
theorem gL_of {r : Nat} (h : r ∈ gR) : r ∈ gL := by
  simp only [gR, gL, List.mem_cons, List.not_mem_nil, or_false] at h ⊢
  omega
theorem gL_40 {r : Nat} (h : r ∈ gL) : 40 ≤ r ∧ r < 60 := by
  simp only [gL, List.mem_cons, List.not_mem_nil, or_false] at h
  omega
theorem J_cut (h : J nr ng np nb C π σ τ) {i : Nat} (hi : i < nr) (hs1 : ¬ σ 28 i = 1) (hs3 : ¬ σ 28 i = 3) : ∃ pc, pcN (σ 26 i) 12 = pc ∧ pcN (τ 26 i) 12 = pc ∧ pc ≤ 4 ∧ J nr (ng + pc) np nb (fun k => k = i ∨ C k) (fun k => if k < ng then π k else 2 * ng + pc - 1 - k) (cutC σ ng i) (cutC τ ng i) := by
  have hng := h.ng56
  obtain ⟨⟨⟨b1, b2, b3, b4, b5, b6, b7⟩, hz, hd, hc⟩, he, hf, hg, hp, hl1, hl2⟩ := h
  obtain ⟨F, hF, f1, f2⟩ := hf i hi
  obtain ⟨r1, r2, r3, r4, r5⟩ := rv_all hF
  obtain ⟨G, hG⟩ : ∃ G, rvN F 12 = G := ⟨_, rfl⟩
  rw [hG] at r1 r2 r3 f2
  have t12 : τ 0 12 = nI ng := by rw [he 0 (by decide) (by decide)]; exact b5
  obtain ⟨p1, p2, p3, p4, p5, p6⟩ := cgP f1 (by omega) b5 12 (by omega)
  obtain ⟨q1, q2, q3, q4, q5, q6⟩ := cgP f2 (by omega) t12 12 (by omega)
  have elen : (cl G 12).length = (cl F 12).length := by rw [r2, List.length_map, List.length_reverse]
  obtain ⟨pc, hpc⟩ : ∃ pc, (cl F 12).length = pc := ⟨_, rfl⟩
  have gw : gemW τ i = gemW σ i := by
    funext n
    unfold gemW
    rw [he 23 (by decide) (by decide)]
  rw [elen] at q2 q4
  rw [hpc] at p2 p4 q2 q4 r4
  have hcg : ∀ {μ : Mm} {r : Nat}, r ≠ 0 → r ≠ 11 → (r < 40 ∨ 60 ≤ r) → cgC μ ng i 12 r = μ r := fun a b c => cgC_r _ ng i a b c 12
  have eEQ : EQ (cgC σ ng i 12) (cgC τ ng i 12) := by
    intro r a c
    by_cases e0 : r = 0
    · subst e0
      funext j
      by_cases e12 : j = 12
      · subst e12; rw [p2, q2]
      · by_cases e13 : j = 13
        · subst e13
          rw [p3, q3, gw, r2, smW_rev, he 0 (by decide) (by decide), he 23 (by decide) (by decide)]
        · rw [p1 j e12 e13, q1 j e12 e13, he 0 (by decide) (by decide)]
    · by_cases e1 : r = 11
      · subst e1
        funext j
        rw [p4, q4, he 11 (by decide) (by decide)]
      · rw [hcg e0 e1 c, hcg e0 e1 c]; exact he r a c
  have e28 : cutC σ ng i 28 = upd (σ 28) i 3 := by
    unfold cutC
    rw [endT_r _ i (by decide), up_eq, hcg (by decide) (by decide) (by decide)]
  have nC : ¬ C i := fun z => hs3 ((hc.2.2 i hi).mpr z)
  have i30 : σ 30 i = -1 := (hc.1 i hi).resolve_right hs1
  refine ⟨pc, by rw [f1, pcN_eq (by omega) 12 (by omega)]; exact hpc, by rw [f2, pcN_eq (by omega) 12 (by omega), elen]; exact hpc, r4, ⟨⟨?_, ?_, ?_, ?_, ?_, ?_, ?_⟩, ⟨?_, ?_⟩, ?_, ⟨fun k hk => ?_, ?_, fun k hk => ?_⟩⟩, ?_, fun k hk => ?_, fun k hk => ?_, ⟨fun k hk => ?_, fun x y hx hy e => ?_⟩, ?_, hl2⟩
  · unfold PRs; rw [cutC_r (by decide) (by decide), hcg (by decide) (by decide) (by decide)]; exact b1
  · intro j hj
    rw [cutC_r (by decide) (by decide), p4]
    by_cases z : ng ≤ j ∧ j < ng + pc
    · rw [if_pos z]; exact ⟨fun _ => z.2, fun _ => by decide⟩
    · rw [if_neg z, b2 j hj]; omega
  · rw [cutC_r (by decide) (by decide), p1 1 (by decide) (by decide)]; exact b3
  · rw [cutC_r (by decide) (by decide), p1 3 (by decide) (by decide)]; exact b4
  · rw [cutC_r (by decide) (by decide)]; exact p2
  · rw [cutC_r (by decide) (by decide), p1 9 (by decide) (by decide)]; exact b6
  · intro k hk; rw [cutC_r (by decide) (by decide), hcg (by decide) (by decide) (by decide)]; exact b7 k hk
  · intro j hj; rw [cutC_r (by decide) (by decide), hcg (by decide) (by decide) (by decide)]; exact hz.1 j hj
  · intro j hj; rw [cutC_r (by decide) (by decide), p4, if_neg (by omega)]; exact hz.2 j (by omega)
  · exact BD_cg (by rw [cutC_r (by decide) (by decide), hcg (by decide) (by decide) (by decide)]) (by rw [cutC_r (by decide) (by decide), hcg (by decide) (by decide) (by decide)]) (by rw [cutC_r (by decide) (by decide), hcg (by decide) (by decide) (by decide)]) hd
  · rw [e28, cutC_r (by decide) (by decide), hcg (by decide) (by decide) (by decide)]
    by_cases e : k = i
    · subst e; exact Or.inl i30
    · rw [pk_un e]; exact hc.1 k hk
  · rw [e28]
    have h9 : ∀ μ : Mm, μ 9 = σ 9 → endT μ i 9 0 = 0 ∨ ∃ k, k < nr ∧ endT μ i 9 0 = nI (k + 1) ∧ upd (σ 28) i 3 k = 0 := fun μ hμ => by
      by_cases q : σ 9 0 = nI (i + 1)
      · refine Or.inl ?_
        unfold endT
        rw [iF_t (by rw [hμ]; exact q)]
        exact up_self
      · unfold endT
        rw [iF_f (by rw [hμ]; exact q), hμ]
        rcases hc.2.1 with z | ⟨k, hk, z, g⟩
        · exact Or.inl z
        · refine Or.inr ⟨k, hk, z, ?_⟩
          rw [pk_un (fun e => q (by rw [z, e]))]; exact g
    exact h9 _ (by rw [up_ne (by decide), hcg (by decide) (by decide) (by decide)])
  · rw [e28]
    by_cases e : k = i
    · subst e; rw [pk_us]; exact ⟨fun _ => Or.inl rfl, fun _ => rfl⟩
    · rw [pk_un e, hc.2.2 k hk]
      exact ⟨Or.inr, fun z => z.resolve_left e⟩
  · unfold cutC; exact (EQ_up eEQ _ _ _).et i
  · rw [cutC_r (by decide) (by decide), cutC_r (by decide) (by decide), hcg (by decide) (by decide) (by decide), hcg (by decide) (by decide) (by decide)]; exact hf k hk
  · have key : ∀ {μ : Mm} {r j : Nat}, r ∈ gL → cutC μ ng i r j = cgC μ ng i 12 r j := fun {μ r j} hr => by
      have := gL_40 hr
      rw [cutC_r (by omega) (by omega)]
    by_cases q : k < ng
    · have hπ := hp.1 k q
      have eπ : (fun k => if k < ng then π k else 2 * ng + pc - 1 - k) k = π k := if_pos q
      rw [eπ]
      refine ⟨fun r hr => ?_, ?_⟩
      · rw [key (gL_of hr), key (gL_of hr), p5 r (gL_of hr) k q, q5 r (gL_of hr) (π k) hπ]; exact (hg k q).1 r hr
      · rw [key (r := 44) (by decide), key (r := 45) (by decide), key (r := 44) (by decide), p5 44 (by decide) k q, p5 45 (by decide) k q, q5 44 (by decide) (π k) hπ]; exact (hg k q).2
    · obtain ⟨j, rfl⟩ : ∃ j, k = ng + j := ⟨k - ng, by omega⟩
      have eπ : (fun k => if k < ng then π k else 2 * ng + pc - 1 - k) (ng + j) = ng + (pc - 1 - j) := by
        show (if ng + j < ng then π (ng + j) else 2 * ng + pc - 1 - (ng + j)) = _
        rw [if_neg (by omega)]; omega
      rw [eπ]
      have hj : j < (cl F 12).length := by omega
      obtain ⟨⟨c, n⟩, hcn⟩ : ∃ q, (cl F 12)[j]? = some q := ⟨_, List.getElem?_eq_getElem hj⟩
      have hcn2 : (cl G 12)[pc - 1 - j]? = some (12 - c - n, n) := by
        rw [r2, List.getElem?_map, List.getElem?_reverse (by omega), show (cl F 12).length - 1 - (pc - 1 - j) = j by omega, hcn]
        rfl
      have h12 := r5 _ (List.mem_of_getElem? hcn)
      refine ⟨fun r hr => ?_, ?_⟩
      · rw [key (gL_of hr), key (gL_of hr), p6 j c n hcn r (gL_of hr), q6 _ _ _ hcn2 r (gL_of hr), rowG_cg (σ := σ) (τ := τ) (he 20 (by decide) (by decide)) (he 25 (by decide) (by decide)) (he 22 (by decide) (by decide)) (he 29 (by decide) (by decide)) (he 23 (by decide) (by decide))]
        have h44 : r ≠ 44 := fun z => by subst z; exact absurd hr (by decide)
        unfold rowG
        rw [if_neg h44, if_neg h44]
      · rw [key (r := 44) (by decide), key (r := 45) (by decide), key (r := 44) (by decide), p6 j c n hcn 44 (by decide), p6 j c n hcn 45 (by decide), q6 _ _ _ hcn2 44 (by decide)]
        show nI c + nI n + nI (12 - c - n) = 12
        rw [nI_add, nI_add, show c + n + (12 - c - n) = 12 from by have : c + n ≤ 12 := h12; omega]
        rfl
  · show (if k < ng then π k else 2 * ng + pc - 1 - k) < ng + pc
    by_cases q : k < ng
    · rw [if_pos q]; have := hp.1 k q; omega
    · rw [if_neg q]; omega
  · change (if x < ng then π x else 2 * ng + pc - 1 - x) = (if y < ng then π y else 2 * ng + pc - 1 - y) at e
    by_cases qx : x < ng
    · have := hp.1 x qx
      by_cases qy : y < ng
      · rw [if_pos qx, if_pos qy] at e; exact hp.2 x y qx qy e
      · rw [if_pos qx, if_neg qy] at e; omega
    · by_cases qy : y < ng
      · have := hp.1 y qy
        rw [if_neg qx, if_pos qy] at e; omega
      · rw [if_neg qx, if_neg qy] at e; omega
  · rw [cN_add nC nr hi]; omega
end JG


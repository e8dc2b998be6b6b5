/-! ===== the plan found anew is the plan ===== -/
theorem an_and (a b : Nat) : nI a &&& nI b = nI (a &&& b) := by
  apply Int32.toBitVec.inj
  simp [nI, Int32.toBitVec_and]
theorem sh_hs (k : Nat) (hk : k < 12) : ((nI k &&& 31 : Int32).toBitVec.smod 32).toNat = k := by
  have : ∀ k, k < 12 → ((nI k &&& 31 : Int32).toBitVec.smod 32).toNat = k := by decide +kernel
  exact this k hk
theorem clr_N {X k : Nat} (hX : X < 2 ^ 31) (hk : k < 12) : clr (nI X) k ↔ X / 2 ^ k % 2 = 0 := by
  unfold clr
  rw [pk_shrN hX _ k (sh_hs k hk), pk_andN (m := 1) (k := 1) (by have := Nat.div_le_self X (2 ^ k); omega) (by decide)]
  constructor
  · intro h
    have h1 := congrArg Int32.toInt h
    rw [nI_toInt (by omega)] at h1
    have h2 : (0 : Int32).toInt = 0 := rfl
    omega
  · intro h
    rw [show X / 2 ^ k % 2 ^ 1 = 0 from h]; rfl
theorem clr_sub {L F k : Nat} (hL : L < 2 ^ 31) (hF : F < 2 ^ 31) (hk : k < 12) (h : nI L &&& nI F = nI F) (hc : clr (nI L) k) : clr (nI F) k := by
  rw [an_and] at h
  have hle : L &&& F ≤ F := Nat.and_le_right
  have h2 : L &&& F = F := by
    have h1 := congrArg Int32.toInt h
    rw [nI_toInt (by omega), nI_toInt hF] at h1
    omega
  rw [clr_N hL hk] at hc
  rw [clr_N hF hk]
  have t1 : L.testBit k = false := by
    rw [Nat.testBit_eq_decide_div_mod_eq]
    simp [hc]
  have t2 : F.testBit k = false := by
    rw [← h2, Nat.testBit_and, t1, Bool.false_and]
  rw [Nat.testBit_eq_decide_div_mod_eq] at t2
  have t3 : ¬ F / 2 ^ k % 2 = 1 := of_decide_eq_false t2
  omega
def gg (n : Nat) : Nat := ww n * n
theorem gg_add (r t : Nat) : gg r + gg t ≤ gg (r + t + 1) := by
  have e : (r + t + 1) * (r + t + 1) = r * r + t * t + (r * t + r * t + r + r + t + t + 1) := by
    rw [Nat.add_mul, Nat.add_mul, Nat.mul_add, Nat.mul_add, Nat.mul_add, Nat.mul_add, Nat.mul_comm t r]
    omega
  unfold gg ww
  by_cases h1 : 2 ≤ r
  · by_cases h2 : 2 ≤ t
    · rw [if_pos h1, if_pos h2, if_pos (by omega), e]; omega
    · rw [if_pos h1, if_neg h2, if_pos (by omega), e]; omega
  · by_cases h2 : 2 ≤ t
    · rw [if_neg h1, if_pos h2, if_pos (by omega), e]; omega
    · rw [if_neg h1, if_neg h2]; omega
theorem wb_mono {x y : Int32} : ∀ k, (∀ j, j < k → clr x j → clr y j) → (wbW x k).2 ≤ (wbW y k).2 ∨ True → ∀ t, (wbW x k).1 + gg ((wbW x k).2 + t) ≤ (wbW y k).1 + gg ((wbW y k).2 + t)
  | 0, _, _, t => Nat.le_refl _
  | k + 1, h, _, t => by
    have ih := wb_mono (x := x) (y := y) k (fun j hj => h j (by omega)) (Or.inr trivial)
    by_cases c1 : clr x k
    · have c2 : clr y k := h k (by omega) c1
      rw [wbW, wbW, iF_t c1, iF_t c2]
      have := ih (t + 1)
      rw [show (wbW x k).2 + (t + 1) = (wbW x k).2 + 1 + t by omega, show (wbW y k).2 + (t + 1) = (wbW y k).2 + 1 + t by omega] at this
      exact this
    · by_cases c2 : clr y k
      · rw [wbW, wbW, iF_f c1, iF_t c2]
        have h1 := ih (t + 1)
        have h2 := gg_add (wbW x k).2 t
        rw [show (wbW x k).2 + (t + 1) = (wbW x k).2 + t + 1 by omega, show (wbW y k).2 + (t + 1) = (wbW y k).2 + 1 + t by omega] at h1
        show (wbW x k).1 + ww (wbW x k).2 * (wbW x k).2 + gg (0 + t) ≤ (wbW y k).1 + gg ((wbW y k).2 + 1 + t)
        rw [Nat.zero_add]
        have h3 : ww (wbW x k).2 * (wbW x k).2 = gg (wbW x k).2 := rfl
        omega
      · rw [wbW, wbW, iF_f c1, iF_f c2]
        have h1 := ih 0
        show (wbW x k).1 + ww (wbW x k).2 * (wbW x k).2 + gg (0 + t) ≤ (wbW y k).1 + ww (wbW y k).2 * (wbW y k).2 + gg (0 + t)
        have h3 : ww (wbW x k).2 * (wbW x k).2 = gg (wbW x k).2 := rfl
        have h4 : ww (wbW y k).2 * (wbW y k).2 = gg (wbW y k).2 := rfl
        rw [Nat.add_zero, Nat.add_zero] at h1
        omega
theorem wbN_mono {x y : Int32} (h : ∀ j, j < 12 → clr x j → clr y j) : wbN x ≤ wbN y := by
  have := wb_mono (x := x) (y := y) 12 h (Or.inr trivial) 0
  rw [Nat.add_zero, Nat.add_zero] at this
  exact this
theorem endC_run (fl : Int32) {k : Nat} (hk : k ≤ 12) (hend : k = 12 ∨ ¬ clr fl k) : ∀ f e, e ≤ k → k ≤ e + f → (∀ j, e ≤ j → j < k → clr fl j) → endC fl f e = k
  | 0, e, h1, h2, _ => by show e = k; omega
  | f + 1, e, h1, h2, h3 => by
    by_cases q : e = k
    · subst q
      have : ¬ (e < 12 ∧ clr fl e) := fun z => by
        rcases hend with g | g
        · omega
        · exact g z.2
      rw [endC, iF_f this]
    · rw [endC, iF_t ⟨by omega, h3 e (Nat.le_refl _) (by omega)⟩]
      exact endC_run fl hk hend f (e + 1) (by omega) (by omega) (fun j a b => h3 j (by omega) b)
theorem plS_skip (fl : Int32) {a : Nat} : ∀ b, a ≤ b → (∀ j, a ≤ j → j < b → plN fl j = 0) → plS fl b = plS fl a
  | 0, h, _ => by rw [show a = 0 by omega]
  | b + 1, h, h2 => by
    rcases (show a = b + 1 ∨ a ≤ b by omega) with q | q
    · rw [q]
    · rw [plS, h2 b q (by omega), plS_skip fl b q (fun j c d => h2 j c (by omega)), Nat.zero_mul, Nat.add_zero]
theorem plN_end {fl : Int32} {j : Nat} (h : 0 < j) (hc : clr fl (j - 1)) : plN fl j = 0 := iF_t ⟨h, hc⟩
theorem plN_start {fl : Int32} {j k : Nat} (hj : j ≤ k) (hk : k ≤ 12) (h0 : j = 0 ∨ ¬ clr fl (j - 1)) (hend : k = 12 ∨ ¬ clr fl k) (hr : ∀ i, j ≤ i → i < k → clr fl i) : plN fl j = ww (k - j) := by
  have hn : ¬ (0 < j ∧ clr fl (j - 1)) := fun z => h0.elim (fun g => by omega) (fun g => g z.2)
  rw [plN, iF_f hn, endC_run fl hk hend 12 j hj (by omega) hr]
theorem ww_sq (n : Nat) : ww n * ww n = ww n * n := by
  unfold ww
  by_cases h : 2 ≤ n
  · rw [if_pos h]
  · rw [if_neg h]; omega
theorem plS_run {fl : Int32} {j k : Nat} (hj : j ≤ k) (hk : k ≤ 12) (h0 : j = 0 ∨ ¬ clr fl (j - 1)) (hend : k = 12 ∨ ¬ clr fl k) (hr : ∀ i, j ≤ i → i < k → clr fl i) : plS fl k = plS fl j + ww (k - j) * (k - j) := by
  rcases (show j = k ∨ j + 1 ≤ k by omega) with q | q
  · subst q
    rw [Nat.sub_self, Nat.mul_zero, Nat.add_zero]
  · rw [plS_skip fl (a := j + 1) k q (fun i a b => plN_end (by omega) (hr (i - 1) (by omega) (by omega))), plS, plN_start hj hk h0 hend hr, ww_sq]
theorem wb_inv (fl : Int32) : ∀ k, k ≤ 12 → (wbW fl k).2 ≤ k ∧ (wbW fl k).1 = plS fl (k - (wbW fl k).2) ∧ (∀ j, k - (wbW fl k).2 ≤ j → j < k → clr fl j) ∧ (k - (wbW fl k).2 = 0 ∨ ¬ clr fl (k - (wbW fl k).2 - 1))
  | 0, _ => ⟨Nat.le_refl _, rfl, fun j a b => absurd b (by omega), Or.inl rfl⟩
  | k + 1, hk => by
    obtain ⟨h1, h2, h3, h4⟩ := wb_inv fl k (by omega)
    by_cases c : clr fl k
    · rw [wbW, iF_t c]
      refine ⟨Nat.succ_le_succ h1, ?_, ?_, ?_⟩
      · show (wbW fl k).1 = plS fl (k + 1 - ((wbW fl k).2 + 1))
        rw [Nat.add_sub_add_right]; exact h2
      · intro j a b
        have a' : k - (wbW fl k).2 ≤ j := by
          have a2 : k + 1 - ((wbW fl k).2 + 1) ≤ j := a
          omega
        rcases (show j = k ∨ j < k by omega) with e | e
        · rw [e]; exact c
        · exact h3 j a' e
      · show k + 1 - ((wbW fl k).2 + 1) = 0 ∨ ¬ clr fl (k + 1 - ((wbW fl k).2 + 1) - 1)
        rw [Nat.add_sub_add_right]; exact h4
    · rw [wbW, iF_f c]
      refine ⟨Nat.zero_le _, ?_, fun j a b => ?_, Or.inr ?_⟩
      · show (wbW fl k).1 + ww (wbW fl k).2 * (wbW fl k).2 = plS fl (k + 1 - 0)
        have hr := plS_run (fl := fl) (j := k - (wbW fl k).2) (k := k) (by omega) (by omega) h4 (Or.inr c) h3
        have hp : plN fl k = 0 := by
          rcases (show (wbW fl k).2 = 0 ∨ 0 < (wbW fl k).2 by omega) with e | e
          · rw [e] at h4
            rw [plN_start (j := k) (k := k) (Nat.le_refl _) (by omega) h4 (Or.inr c) (fun i a b => absurd b (by omega)), Nat.sub_self]; rfl
          · exact plN_end (by omega) (h3 (k - 1) (by omega) (by omega))
        rw [show k - (k - (wbW fl k).2) = (wbW fl k).2 by omega] at hr
        rw [Nat.sub_zero, plS, hp, hr, h2, Nat.zero_mul, Nat.add_zero]
      · have a' : k + 1 - 0 ≤ j := a
        omega
      · show ¬ clr fl (k + 1 - 0 - 1)
        rw [Nat.sub_zero, Nat.add_sub_cancel]; exact c
theorem wbN_pl (fl : Int32) : wbN fl = plS fl 12 := by
  obtain ⟨h1, h2, h3, h4⟩ := wb_inv fl 12 (Nat.le_refl _)
  have hr := plS_run (fl := fl) (j := 12 - (wbW fl 12).2) (k := 12) (by omega) (Nat.le_refl _) h4 (Or.inl rfl) h3
  rw [show 12 - (12 - (wbW fl 12).2) = (wbW fl 12).2 by omega] at hr
  unfold wbN
  rw [hr, h2]
theorem plS_le (fl : Int32) : ∀ k, k ≤ 12 → plS fl k ≤ 144 * k
  | 0, _ => Nat.le_refl 0
  | k + 1, h => by
    have h1 := plS_le fl k (by omega)
    have h2 := plN_le fl k (by omega)
    have h3 := Nat.mul_le_mul h2 h2
    rw [plS]; omega
theorem mxI_N {a b : Nat} (ha : a < 2 ^ 31) (hb : b < 2 ^ 31) : mxI (nI a) (nI b) = nI (Nat.max a b) := by
  unfold mxI
  by_cases h : a < b
  · rw [if_pos ((nI_ltI ha hb).mpr h), show Nat.max a b = b from Nat.max_eq_right (Nat.le_of_lt h)]
  · rw [if_neg (fun z => h ((nI_ltI ha hb).mp z)), show Nat.max a b = a from Nat.max_eq_left (Nat.le_of_not_lt h)]
theorem paS_le {F : Nat} (hF : F < 4096) : ∀ k, k ≤ 4096 → ∃ v, v ≤ plS (nI F) 12 ∧ paS (nI F) k = nI v ∧ (F < k → plS (nI F) 12 ≤ v)
  | 0, _ => ⟨0, Nat.zero_le _, rfl, fun h => absurd h (by omega)⟩
  | k + 1, h => by
    obtain ⟨v, h1, h2, h3⟩ := paS_le hF k (by omega)
    have hb := plS_le (nI F) 12 (Nat.le_refl _)
    by_cases q : nI k &&& nI F = nI F
    · have hm : wbN (nI k) ≤ plS (nI F) 12 := by
        rw [← wbN_pl]
        exact wbN_mono (fun j hj => clr_sub (by omega) (by omega) hj q)
      refine ⟨Nat.max v (wbN (nI k)), Nat.max_le.mpr ⟨h1, hm⟩, ?_, fun hk => ?_⟩
      · rw [paS, iF_t q, h2, mxI_N (by omega) (by omega)]
      · rcases (show F = k ∨ F < k by omega) with e | e
        · rw [← e, wbN_pl]; exact Nat.le_max_right _ _
        · exact Nat.le_trans (h3 e) (Nat.le_max_left _ _)
    · refine ⟨v, h1, by rw [paS, iF_f q, h2], fun hk => h3 ?_⟩
      rcases (show F = k ∨ F < k by omega) with e | e
      · exfalso
        apply q
        rw [e, an_and, Nat.and_self]
      · exact e
theorem pa_pl {F : Nat} (hF : F < 4096) : paS (nI F) 4096 = nI (plS (nI F) 12) := by
  obtain ⟨v, h1, h2, h3⟩ := paS_le hF 4096 (Nat.le_refl _)
  rw [h2, Nat.le_antisymm h1 (h3 hF)]

/-! ===== a row of cells read from its other end: all sets of flaws, one by one ===== -/
theorem sh_hs (k : Nat) (hk : k < 12) : ((nI k &&& 31 : Int32).toBitVec.smod 32).toNat = k := sh_h2 k hk
theorem clr_N {X k : Nat} (hX : X < 2 ^ 31) (hk : k < 12) : clr (nI X) k ↔ X / 2 ^ k % 2 = 0 := by
  unfold clr
  rw [pk_shrN hX _ k (sh_hs k hk), pk_andN (m := 1) (k := 1) (by have := Nat.div_le_self X (2 ^ k); omega) (by decide)]
  constructor
  · intro h
    have h1 := congrArg Int32.toInt h
    rw [nI_toInt (by omega)] at h1
    have h2 : (0 : Int32).toInt = 0 := rfl
    omega
  · intro h
    rw [show X / 2 ^ k % 2 ^ 1 = 0 from h]; rfl
def eN (F : Nat) : Nat → Nat → Nat
  | 0, e => e
  | f + 1, e => if e < 12 ∧ F / 2 ^ e % 2 = 0 then eN F f (e + 1) else e
def pN (F k : Nat) : Nat := if 0 < k ∧ F / 2 ^ (k - 1) % 2 = 0 then 0 else ww (eN F 12 k - k)
def psF (F : Nat) : Nat → Nat
  | 0 => 0
  | k + 1 => psF F k + pN F k * pN F k
def cl (F : Nat) : Nat → List (Nat × Nat)
  | 0 => []
  | k + 1 => if 0 < pN F k then cl F k ++ [(k, pN F k)] else cl F k
def chk (F : Nat) : Bool := let G := rvN F 12; let a := cl F 12; decide (G < 4096) && (cl G 12 == a.reverse.map (fun q => (12 - q.1 - q.2, q.2))) && (psF G 12 == psF F 12) && decide (a.length ≤ 4) && a.all (fun q => decide (q.1 + q.2 ≤ 12))
theorem eN_eq {F : Nat} (hF : F < 2 ^ 31) : ∀ f e, endC (nI F) f e = eN F f e
  | 0, e => rfl
  | f + 1, e => by
    rw [endC, eN]
    by_cases h : e < 12
    · by_cases g : F / 2 ^ e % 2 = 0
      · rw [iF_t ⟨h, (clr_N hF h).mpr g⟩, if_pos ⟨h, g⟩, eN_eq hF f (e + 1)]
      · rw [iF_f (fun q => g ((clr_N hF h).mp q.2)), if_neg (fun q => g q.2)]
    · rw [iF_f (fun q => h q.1), if_neg (fun q => h q.1)]
theorem pN_eq {F k : Nat} (hF : F < 2 ^ 31) (hk : k ≤ 12) : plN (nI F) k = pN F k := by
  unfold plN pN
  rw [eN_eq hF]
  by_cases h : 0 < k
  · by_cases g : F / 2 ^ (k - 1) % 2 = 0
    · rw [iF_t ⟨h, (clr_N hF (by omega)).mpr g⟩, if_pos ⟨h, g⟩]
    · rw [iF_f (fun q => g ((clr_N hF (by omega)).mp q.2)), if_neg (fun q => g q.2)]
  · rw [iF_f (fun q => h q.1), if_neg (fun q => h q.1)]
theorem psF_eq {F : Nat} (hF : F < 2 ^ 31) : ∀ k, k ≤ 12 → plS (nI F) k = psF F k
  | 0, _ => rfl
  | k + 1, h => by rw [plS, psF, psF_eq hF k (by omega), pN_eq hF (by omega)]
theorem pcN_eq {F : Nat} (hF : F < 2 ^ 31) : ∀ k, k ≤ 12 → pcN (nI F) k = (cl F k).length
  | 0, _ => rfl
  | k + 1, h => by
    rw [pcN, cl, pN_eq hF (by omega), pcN_eq hF k (by omega)]
    by_cases g : 0 < pN F k
    · rw [iF_t g, if_pos g, List.length_append]; rfl
    · rw [iF_f g, if_neg g]
theorem chk_0 : ∀ F, F < 512 → chk (0 + F) = true := by decide +kernel
theorem chk_1 : ∀ F, F < 512 → chk (512 + F) = true := by decide +kernel
theorem chk_2 : ∀ F, F < 512 → chk (1024 + F) = true := by decide +kernel
theorem chk_3 : ∀ F, F < 512 → chk (1536 + F) = true := by decide +kernel
theorem chk_4 : ∀ F, F < 512 → chk (2048 + F) = true := by decide +kernel
theorem chk_5 : ∀ F, F < 512 → chk (2560 + F) = true := by decide +kernel
theorem chk_6 : ∀ F, F < 512 → chk (3072 + F) = true := by decide +kernel
theorem chk_7 : ∀ F, F < 512 → chk (3584 + F) = true := by decide +kernel
theorem chk_all {F : Nat} (h : F < 4096) : chk F = true := by
  rcases (show (0 ≤ F ∧ F < 512) ∨ (512 ≤ F ∧ F < 1024) ∨ (1024 ≤ F ∧ F < 1536) ∨ (1536 ≤ F ∧ F < 2048) ∨ (2048 ≤ F ∧ F < 2560) ∨ (2560 ≤ F ∧ F < 3072) ∨ (3072 ≤ F ∧ F < 3584) ∨ (3584 ≤ F ∧ F < 4096) by omega) with h | h | h | h | h | h | h | h
  · have := chk_0 (F - 0) (by omega)
    rwa [show 0 + (F - 0) = F by omega] at this
  · have := chk_1 (F - 512) (by omega)
    rwa [show 512 + (F - 512) = F by omega] at this
  · have := chk_2 (F - 1024) (by omega)
    rwa [show 1024 + (F - 1024) = F by omega] at this
  · have := chk_3 (F - 1536) (by omega)
    rwa [show 1536 + (F - 1536) = F by omega] at this
  · have := chk_4 (F - 2048) (by omega)
    rwa [show 2048 + (F - 2048) = F by omega] at this
  · have := chk_5 (F - 2560) (by omega)
    rwa [show 2560 + (F - 2560) = F by omega] at this
  · have := chk_6 (F - 3072) (by omega)
    rwa [show 3072 + (F - 3072) = F by omega] at this
  · have := chk_7 (F - 3584) (by omega)
    rwa [show 3584 + (F - 3584) = F by omega] at this
theorem rv_all {F : Nat} (h : F < 4096) : rvN F 12 < 4096 ∧ cl (rvN F 12) 12 = (cl F 12).reverse.map (fun q => (12 - q.1 - q.2, q.2)) ∧ psF (rvN F 12) 12 = psF F 12 ∧ (cl F 12).length ≤ 4 ∧ ∀ q ∈ cl F 12, q.1 + q.2 ≤ 12 := by
  have := chk_all h
  simp only [chk, Bool.and_eq_true, decide_eq_true_eq, beq_iff_eq, List.all_eq_true] at this
  exact ⟨this.1.1.1.1, this.1.1.1.2, this.1.1.2, this.1.2, this.2⟩

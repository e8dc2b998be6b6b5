/-! ===== the book and its reference agree ===== -/
def RA (σ : Mm) : Prop := σ 1 = σ 62 ∧ σ 21 = σ 64 ∧ σ 23 = σ 65 ∧ σ 24 = σ 66 ∧ σ 25 = σ 67 ∧ σ 26 = σ 68 ∧ σ 28 = σ 69 ∧ σ 29 = σ 70 ∧ σ 30 = σ 71 ∧ σ 31 = σ 72 ∧ σ 32 = σ 75 ∧ σ 33 = σ 73 ∧ σ 3 = σ 76 ∧ σ 5 = σ 77 ∧ σ 8 = σ 79 ∧ σ 7 = σ 81 ∧ σ 6 = σ 82 ∧ σ 10 = σ 85 ∧ σ 40 = σ 87 ∧ σ 47 = σ 88 ∧ σ 44 = σ 89 ∧ σ 45 = σ 90 ∧ σ 43 = σ 91 ∧ σ 48 = σ 92 ∧ σ 50 = σ 95 ∧ σ 51 = σ 93 ∧ σ 12 = σ 96 ∧ σ 14 = σ 97
def RB (σ : Mm) : Prop := (∀ i, σ 34 i = σ 74 (3 * i) ∧ σ 35 i = σ 74 (3 * i + 1) ∧ σ 36 i = σ 74 (3 * i + 2)) ∧ (∀ i, σ 52 i = σ 94 (3 * i) ∧ σ 53 i = σ 94 (3 * i + 1) ∧ σ 54 i = σ 94 (3 * i + 2)) ∧ ∀ j, bd18 (σ 94 j)
def RC (nr : Nat) (σ : Mm) : Prop := σ 9 1 = σ 60 24 ∧ 0 ≤ σ 9 1 ∧ ((σ 9 0 = 0 ∧ σ 60 23 = -1) ∨ ∃ i, i < nr ∧ σ 9 0 = nI (i + 1) ∧ σ 60 23 = nI i ∧ σ 28 i = 0) ∧ σ 0 13 = σ 60 38
def RD1 (nr : Nat) (σ : Mm) : Prop := ∀ i, i < nr → σ 20 i = nI i ∧ σ 22 i = pitM σ i ∧ (12 ≤ σ 23 i ∧ σ 23 i ≤ 9999) ∧ ∃ F, F < 4096 ∧ σ 26 i = nI F
def RD2 (ng : Nat) (σ : Mm) : Prop := ∀ i, i < ng → σ 41 i = σ 67 (σ 87 i).toNatClampNeg ∧ σ 42 i = orgM σ i ∧ 0 ≤ σ 47 i ∧ σ 47 i ≤ 9999
def RE1 (nr : Nat) (σ : Mm) : Prop := ∀ i, nr ≤ i → σ 28 i = 0 ∧ σ 31 i = 0 ∧ σ 32 i = 0 ∧ σ 33 i = 0 ∧ σ 34 i = 0 ∧ σ 35 i = 0 ∧ σ 36 i = 0
def RE2 (ng : Nat) (σ : Mm) : Prop := ∀ i, ng ≤ i → σ 50 i = 0 ∧ σ 51 i = 0 ∧ σ 52 i = 0 ∧ σ 53 i = 0 ∧ σ 54 i = 0
def RF (nr : Nat) (σ : Mm) : Prop := ∀ i, i < nr → (σ 28 i = 1 ∧ ¬ σ 30 i = -1 ∧ σ 29 i = -1) ∨ (σ 28 i = 0 ∧ σ 30 i = -1 ∧ σ 29 i = -1) ∨ ((σ 28 i = 2 ∨ σ 28 i = 3) ∧ σ 30 i = -1)
def RG (nb : Nat) (σ : Mm) : Prop := (∀ b, b < 5 → σ 7 b = -1 ∨ ∃ a, a < nb ∧ σ 7 b = nI a) ∧ (∀ b c, b < 5 → c < 5 → σ 7 b = σ 7 c → σ 7 b = -1 ∨ b = c) ∧ ∀ a, a < nb → (σ 80 a = 0 ↔ offd σ (nI a))
def RH (nr : Nat) (σ : Mm) : Prop := ∀ j, j < 4 → σ 13 j = cmM σ (nI j) nr ∧ 0 ≤ σ 14 j ∧ σ 14 j ≤ σ 13 j
def INV (nr ng np nb : Nat) (σ : Mm) : Prop := IC nr ng np nb σ ∧ HZ nr ng σ ∧ ML nr ng np nb σ ∧ RA σ ∧ RB σ ∧ RC nr σ ∧ RD1 nr σ ∧ RD2 ng σ ∧ RE1 nr σ ∧ RE2 ng σ ∧ RF nr σ ∧ RG nb σ ∧ RH nr σ
theorem cmM_cg {σ τ : Mm} (h1 : τ 62 = σ 62) (h2 : τ 64 = σ 64) (h3 : τ 65 = σ 65) (x : Int32) : ∀ n, cmM τ x n = cmM σ x n
  | 0 => rfl
  | n + 1 => by
    have e : pitM τ n = pitM σ n := by unfold pitM; rw [h1, h2]
    rw [cmM, cmM, cmM_cg h1 h2 h3 x n, e, h3]
theorem RH_cg {nr : Nat} {σ τ : Mm} (h1 : τ 62 = σ 62) (h2 : τ 64 = σ 64) (h3 : τ 65 = σ 65) (h4 : τ 13 = σ 13) (h5 : τ 14 = σ 14) (h : RH nr σ) : RH nr τ := fun j hj => by
  rw [cmM_cg h1 h2 h3, h4, h5]; exact h j hj
theorem INV_60 {nr ng np nb : Nat} {σ : Mm} (v : Int32) (h : INV nr ng np nb σ) : INV nr ng np nb (up σ 60 0 v) := by
  obtain ⟨hIC, hHZ, hML, hRA, hRB, hRC, hRD1, hRD2, hRE1, hRE2, hRF, hRG, hRH⟩ := h
  exact ⟨hIC, hHZ, hML, hRA, hRB, hRC, hRD1, hRD2, hRE1, hRE2, hRF, hRG, RH_cg (σ := σ) rfl rfl rfl rfl rfl hRH⟩
theorem INV_99 {nr ng np nb : Nat} {σ : Mm} (v : Int32) (h : INV nr ng np nb σ) : INV nr ng np nb (up σ 99 0 v) := by
  obtain ⟨hIC, hHZ, hML, hRA, hRB, hRC, hRD1, hRD2, hRE1, hRE2, hRF, hRG, hRH⟩ := h
  exact ⟨hIC, hHZ, hML, hRA, hRB, hRC, hRD1, hRD2, hRE1, hRE2, hRF, hRG, RH_cg (σ := σ) rfl rfl rfl rfl rfl hRH⟩
theorem leL {a b x : Int32} (h : b.toInt = a.toInt + 1) : x ≤ a ↔ x < b := by
  rw [Int32.le_iff_toInt_le, Int32.lt_iff_toInt_lt, h]
  omega
theorem cd1_1 {P : Prop} (h : ¬ P) : cd1 P = 1 := iF_f h
theorem cd2_1 {P Q : Prop} (h : ¬ P) : cd2 P Q = 1 := iF_f h
theorem cd2_2 {P Q : Prop} (p : P) (h : ¬ Q) : cd2 P Q = 2 := by rw [cd2, iF_t p, iF_f h]
theorem cd3_1 {P Q R : Prop} (h : ¬ P) : cd3 P Q R = 1 := iF_f h
theorem cd3_2 {P Q R : Prop} (p : P) (h : ¬ Q) : cd3 P Q R = 2 := by rw [cd3, iF_t p, iF_f h]
theorem cd3_3 {P Q R : Prop} (p : P) (q : Q) (h : ¬ R) : cd3 P Q R = 3 := by rw [cd3, iF_t p, iF_t q, iF_f h]
theorem nI_rg {j N : Nat} (h : j < N) (hN : N < 2 ^ 31) : 0 ≤ nI j ∧ nI j < nI N := ⟨nI_pos' (by omega), nI_lt h hN⟩
theorem b18_0 : bd18 0 := ⟨by decide, by decide⟩
/-- the start -/
theorem INV_0 : INV 0 0 0 0 s0 := by
  refine ⟨⟨fun i _ => ⟨fun h => absurd rfl h, fun h => absurd h (by omega)⟩, fun i _ => ⟨fun h => absurd rfl h, fun h => absurd h (by omega)⟩, ⟨rfl, by decide⟩, rfl, rfl, ⟨rfl, by decide⟩, Or.inl rfl, fun i h => absurd h (by omega), fun i h => absurd h (by omega)⟩, ⟨fun _ _ => rfl, fun _ _ => rfl⟩, ⟨rfl, rfl, rfl, rfl, by decide, by decide, by decide, by decide, fun _ => b18_0, fun s h => absurd h (by omega), fun s h => absurd h (by omega), fun s h => absurd h (by omega), fun s h => absurd h (by omega), fun b hb => Or.inl ?_, Or.inl rfl⟩, ⟨rfl, rfl, rfl, rfl, rfl, rfl, rfl, rfl, rfl, rfl, rfl, rfl, rfl, rfl, rfl, rfl, rfl, rfl, rfl, rfl, rfl, rfl, rfl, rfl, rfl, rfl, rfl, rfl⟩, ⟨fun _ => ⟨rfl, rfl, rfl⟩, fun _ => ⟨rfl, rfl, rfl⟩, fun _ => b18_0⟩, ⟨rfl, by decide, Or.inl ⟨rfl, rfl⟩, rfl⟩, fun i h => absurd h (by omega), fun i h => absurd h (by omega), fun _ _ => ⟨rfl, rfl, rfl, rfl, rfl, rfl, rfl⟩, fun _ _ => ⟨rfl, rfl, rfl, rfl, rfl⟩, fun i h => absurd h (by omega), ⟨fun b hb => Or.inl ?_, fun b c hb hc _ => Or.inl ?_, fun a h => absurd h (by omega)⟩, fun j _ => ⟨rfl, b18_0.1, b18_0.1⟩⟩
  · show fillF zF (-1) 5 b = -1
    exact if_pos hb
  · show fillF zF (-1) 5 b = -1
    exact if_pos hb
  · show fillF zF (-1) 5 b = -1
    exact if_pos hb
theorem I_drift {nr ng np nb : Nat} {σ : Mm} {j : Nat} {y v : Int32} (hj : j < 4) (hI : INV nr ng np nb σ)  : INV nr ng np nb (up (up (up (up (σ) 3 j y) 99 0 v) 60 0 0) 76 j y) := by
  obtain ⟨hIC, hHZ, hML, hRA, hRB, hRC, hRD1, hRD2, hRE1, hRE2, hRF, hRG, hRH⟩ := hI
  have hRA2 := hRA
  obtain ⟨a1, a21, a23, a24, a25, a26, a28, a29, a30, a31, a32, a33, a3, a5, a8, a7, a6, a10, a40, a47, a44, a45, a43, a48, a50, a51, a12, a14⟩ := hRA2
  have hML2 := hML
  obtain ⟨hm1, hm3, hm26, hm18, hnp, hnr, hng, hnb5, hb, hsc, hlc, hpa, hro, hof, hte⟩ := hML2
  have hIC2 := hIC
  obtain ⟨i1, i2, ⟨i3, i4⟩, i5, i6, ⟨i7, i8⟩, i9, i10, i11⟩ := hIC2
  exact ⟨hIC, hHZ, hML, ⟨a1, a21, a23, a24, a25, a26, a28, a29, a30, a31, a32, a33, (congrArg (fun g => upd g j y) a3), a5, a8, a7, a6, a10, a40, a47, a44, a45, a43, a48, a50, a51, a12, a14⟩, hRB, hRC, hRD1, hRD2, hRE1, hRE2, hRF, hRG, RH_cg (σ := σ) rfl rfl rfl rfl rfl hRH⟩
theorem I_scale {nr ng np nb : Nat} {σ : Mm} {j : Nat} {y v : Int32} (hI : INV nr ng np nb σ)  : INV nr ng np nb (up (up (up (up (σ) 12 j y) 99 0 v) 60 0 0) 96 j y) := by
  obtain ⟨hIC, hHZ, hML, hRA, hRB, hRC, hRD1, hRD2, hRE1, hRE2, hRF, hRG, hRH⟩ := hI
  have hRA2 := hRA
  obtain ⟨a1, a21, a23, a24, a25, a26, a28, a29, a30, a31, a32, a33, a3, a5, a8, a7, a6, a10, a40, a47, a44, a45, a43, a48, a50, a51, a12, a14⟩ := hRA2
  have hML2 := hML
  obtain ⟨hm1, hm3, hm26, hm18, hnp, hnr, hng, hnb5, hb, hsc, hlc, hpa, hro, hof, hte⟩ := hML2
  have hIC2 := hIC
  obtain ⟨i1, i2, ⟨i3, i4⟩, i5, i6, ⟨i7, i8⟩, i9, i10, i11⟩ := hIC2
  exact ⟨hIC, hHZ, hML, ⟨a1, a21, a23, a24, a25, a26, a28, a29, a30, a31, a32, a33, a3, a5, a8, a7, a6, a10, a40, a47, a44, a45, a43, a48, a50, a51, (congrArg (fun g => upd g j y) a12), a14⟩, hRB, hRC, hRD1, hRD2, hRE1, hRE2, hRF, hRG, RH_cg (σ := σ) rfl rfl rfl rfl rfl hRH⟩
theorem I_price {nr ng np nb : Nat} {σ : Mm} {j : Nat} {y v : Int32} (hI : INV nr ng np nb σ)  : INV nr ng np nb (up (up (up (up (σ) 5 j y) 99 0 v) 60 0 0) 77 j y) := by
  obtain ⟨hIC, hHZ, hML, hRA, hRB, hRC, hRD1, hRD2, hRE1, hRE2, hRF, hRG, hRH⟩ := hI
  have hRA2 := hRA
  obtain ⟨a1, a21, a23, a24, a25, a26, a28, a29, a30, a31, a32, a33, a3, a5, a8, a7, a6, a10, a40, a47, a44, a45, a43, a48, a50, a51, a12, a14⟩ := hRA2
  have hML2 := hML
  obtain ⟨hm1, hm3, hm26, hm18, hnp, hnr, hng, hnb5, hb, hsc, hlc, hpa, hro, hof, hte⟩ := hML2
  have hIC2 := hIC
  obtain ⟨i1, i2, ⟨i3, i4⟩, i5, i6, ⟨i7, i8⟩, i9, i10, i11⟩ := hIC2
  exact ⟨hIC, hHZ, hML, ⟨a1, a21, a23, a24, a25, a26, a28, a29, a30, a31, a32, a33, a3, (congrArg (fun g => upd g j y) a5), a8, a7, a6, a10, a40, a47, a44, a45, a43, a48, a50, a51, a12, a14⟩, hRB, hRC, hRD1, hRD2, hRE1, hRE2, hRF, hRG, RH_cg (σ := σ) rfl rfl rfl rfl rfl hRH⟩
theorem I_bid {nr ng np nb : Nat} {σ : Mm} {j : Nat} {y v : Int32} (hI : INV nr ng np nb σ)  : INV nr ng np nb (up (up (up (up (σ) 10 j y) 99 0 v) 60 0 0) 85 j y) := by
  obtain ⟨hIC, hHZ, hML, hRA, hRB, hRC, hRD1, hRD2, hRE1, hRE2, hRF, hRG, hRH⟩ := hI
  have hRA2 := hRA
  obtain ⟨a1, a21, a23, a24, a25, a26, a28, a29, a30, a31, a32, a33, a3, a5, a8, a7, a6, a10, a40, a47, a44, a45, a43, a48, a50, a51, a12, a14⟩ := hRA2
  have hML2 := hML
  obtain ⟨hm1, hm3, hm26, hm18, hnp, hnr, hng, hnb5, hb, hsc, hlc, hpa, hro, hof, hte⟩ := hML2
  have hIC2 := hIC
  obtain ⟨i1, i2, ⟨i3, i4⟩, i5, i6, ⟨i7, i8⟩, i9, i10, i11⟩ := hIC2
  exact ⟨hIC, hHZ, hML, ⟨a1, a21, a23, a24, a25, a26, a28, a29, a30, a31, a32, a33, a3, a5, a8, a7, a6, (congrArg (fun g => upd g j y) a10), a40, a47, a44, a45, a43, a48, a50, a51, a12, a14⟩, hRB, hRC, hRD1, hRD2, hRE1, hRE2, hRF, hRG, RH_cg (σ := σ) rfl rfl rfl rfl rfl hRH⟩

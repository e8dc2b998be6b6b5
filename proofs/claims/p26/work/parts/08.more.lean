/-! ===== further rows; what the small methods answer ===== -/
theorem V_c {D : Gt} {A : Nat → Prop} {n : Nat} {S S2 : St} {p : Program} {l : Launch} {e : Env} {R : Room} {s : State} {m : MethodId} {args : Array Value} {below : List Frame} {meth : Method} {c : Code} {cells slots : Nat} {Q : State → Prop} {pc : Nat} {L L2 : List (Option Value)} {st : List Value} (hS : S = S2) (hL : L = L2) (h : V D A n S2 p l e R s m args below meth c cells slots Q pc L2 st) : V D A n S p l e R s m args below meth c cells slots Q pc L st := by
  subst hS; subst hL; exact h
section MROWS
variable {D : Gt} {A : Nat → Prop} {own : String} {cc : ByteArray} {n : Nat} {ret : Option FieldType} {tb : List ExceptionTableEntry} {p : Program} {l : Launch} {e : Env} {R : Room} {s : State} {m : MethodId} {args : Array Value} {below : List Frame} {meth : Method} {c : Code} {cells slots : Nat} {Q : State → Prop} {pc : Nat} {L : List (Option Value)} {st : List Value} {T : List Nat} {ad : Nat → Nat} {σ : Mm} {nr ng : Nat}
theorem r_tin {S : St} (C : CX D A own cc n ret tb p s m args meth c) {dflt lo hi : Int} {offs : Array Int} {len : Nat} {x v : Int32} {off : Int} {tgt : Nat} (d : decode cc pc = .ok (.tableswitch dflt lo hi offs, len)) (hx : x = v) (h1 : ¬ v.toInt < lo) (h2 : ¬ hi < v.toInt) (ho : offs[(v.toInt - lo).toNat]? = some off) (ht : (pc : Int) + off = (tgt : Int)) (kk : V D A n S p l e R s m args below meth c cells slots Q tgt L st) : V D A n S p l e R s m args below meth c cells slots Q pc L (.int x :: st) := fun H locs ls hP hD hS hl => by
  subst hx
  exact lv_tableIn C.1.1 C.1.2.1 d h1 h2 ho ht (kk H locs ls hP hD hS hl)
theorem r_tout {S : St} (C : CX D A own cc n ret tb p s m args meth c) {dflt lo hi : Int} {offs : Array Int} {len : Nat} {x : Int32} {tgt : Nat} (d : decode cc pc = .ok (.tableswitch dflt lo hi offs, len)) (h : x.toInt < lo ∨ hi < x.toInt) (ht : (pc : Int) + dflt = (tgt : Int)) (kk : V D A n S p l e R s m args below meth c cells slots Q tgt L st) : V D A n S p l e R s m args below meth c cells slots Q pc L (.int x :: st) := fun H locs ls hP hD hS hl => lv_tableOut C.1.1 C.1.2.1 d h ht (kk H locs ls hP hD hS hl)
theorem tdr_some {ad : Nat → Nat} {i : Nat} (h : i < 2 ^ 30) : tdr ad (nI (i + 1)) = some (ad (100 + i)) := by
  unfold tdr
  rw [if_neg (nI_ne0 (by omega) (by omega)), nI_clamp (by omega), show 99 + (i + 1) = 100 + i by omega]
theorem tdr_0 {ad : Nat → Nat} : tdr ad 0 = none := if_pos rfl
theorem tdr_n {ad : Nat → Nat} {x : Int32} (h : tdr ad x = none) : x = 0 := by
  unfold tdr at h
  by_cases q : x = 0
  · exact q
  · rw [if_neg q] at h; cases h
theorem tdr_s {ad : Nat → Nat} {x : Int32} {a : Nat} (h : tdr ad x = some a) : ¬ x = 0 := fun q => by
  rw [q, tdr_0] at h; cases h
theorem pX4_15r (C : CX D A RX4 cc n ret tb p s m args meth c) (hT : TG nr ng T) {i : Nat} (hi : i < nr) (d : decode cc pc = .ok (.putfield 15, 3)) (kk : V D A n (T, ad, cO D ad (up σ 9 0 (nI (i + 1)))) p l e R s m args below meth c cells slots Q (pc + 3) L st) : V D A n (T, ad, cO D ad σ) p l e R s m args below meth c cells slots Q pc L (.ref (ad (100 + i)) :: .ref (ad 9) :: st) := by
  have h40 := hT.1
  have e := tdr_some (ad := ad) (i := i) (by omega)
  exact r_putf C inU4 (ci := 4) rfl 0 (by decide) fl_RX4_15 rfl tyX4 tyX4_ok nmX4 rfl (ty := .object "DiamondBook$Rough") (by decide +kernel) rfl rfl ((hT.2.2 _).mpr (Or.inl (by decide))) rfl (by show 0 < 3; decide) (fun q => by rw [u_9_0 q, e]; rfl) d kk
theorem pX4_15n (C : CX D A RX4 cc n ret tb p s m args meth c) (hT : TG nr ng T) (d : decode cc pc = .ok (.putfield 15, 3)) (kk : V D A n (T, ad, cO D ad (up σ 9 0 0)) p l e R s m args below meth c cells slots Q (pc + 3) L st) : V D A n (T, ad, cO D ad σ) p l e R s m args below meth c cells slots Q pc L (.null :: .ref (ad 9) :: st) :=
  r_putf C inU4 (ci := 4) rfl 0 (by decide) fl_RX4_15 rfl tyX4 tyX4_ok nmX4 rfl (ty := .object "DiamondBook$Rough") (by decide +kernel) rfl rfl ((hT.2.2 _).mpr (Or.inl (by decide))) rfl (by show 0 < 3; decide) (fun q => by rw [u_9_0 q, tdr_0]; rfl) d kk
end MROWS
def mid3 (a b c : Int32) : Int32 := mxI (mnI a b) (mnI (mxI a b) c)
noncomputable def qualS (n a b c : Int32) : Int32 := iF (n = 0) (-1) (iF (n = 1) a (iF (n = 2) (mxI a b) (mid3 a b c)))
noncomputable def qualC (σ : Mm) (i : Nat) : Int32 := qualS (σ 33 i) (σ 34 i) (σ 35 i) (σ 36 i)
def dblS (n a b : Int32) : Prop := n = 2 ∧ 2 ≤ absI (a - b)
def dblC (σ : Mm) (i : Nat) : Prop := dblS (σ 33 i) (σ 34 i) (σ 35 i)
def canC (σ : Mm) (i : Nat) : Prop := σ 28 i = 0 ∧ 0 < σ 33 i ∧ ¬ dblC σ i
noncomputable def szN (w : Int32) : Nat := iF (w < 100) 0 (iF (w < 300) 1 (iF (w < 1000) 2 3))
theorem szN_lt (w : Int32) : szN w < 4 := by
  unfold szN iF
  split <;> (try split) <;> (try split) <;> decide
noncomputable def valS (w q : Int32) (pr : Nat → Int32) : Int32 := iF (q = -1) (-1) (w * pr (19 * szN w + q.toNatClampNeg) / 100)
noncomputable def valC (σ : Mm) (i : Nat) : Int32 := valS (σ 23 i) (qualC σ i) (σ 5)
def qOK (q : Int32) : Prop := q = -1 ∨ ∃ b : Nat, b < 19 ∧ q = nI b
noncomputable def gradeS (n a b c : Int32) : Int32 := iF (2 ≤ n ∧ a = b) a (iF (3 ≤ n) (mid3 a b c) (-1))
noncomputable def gradeC (σ : Mm) (i : Nat) : Int32 := gradeS (σ 51 i) (σ 52 i) (σ 53 i) (σ 54 i)
noncomputable def gpS (w g : Int32) : Int32 := iF (g = -1) (-1) (iF (w < 100) (w * (20 - g)) (2 * (w * (20 - g))))
noncomputable def payC (σ : Mm) (w : Int32) : Nat → Int32
  | 0 => σ 9 1
  | k + 1 => iF (nI k = w) (payC σ w k) (mxI (payC σ w k) (σ 10 k))
def fillF (h : Nat → Int32) (x : Int32) (k : Nat) : Nat → Int32 := fun j => if j < k then x else h j
theorem fillF_0 {h : Nat → Int32} {x : Int32} : fillF h x 0 = h := by
  funext j; exact if_neg (Nat.not_lt_zero j)
theorem fillF_s {h : Nat → Int32} {x : Int32} {k : Nat} : upd (fillF h x k) k x = fillF h x (k + 1) := by
  funext j
  unfold upd fillF
  by_cases e : j = k
  · subst e; rw [if_pos rfl, if_pos (by omega)]
  · rw [if_neg e]
    by_cases g : j < k
    · rw [if_pos g, if_pos (by omega)]
    · rw [if_neg g, if_neg (by omega)]
theorem i32_toInt {a b : Int32} (h : a.toInt = b.toInt) : a = b := Int32.toInt_inj.mp h
theorem tsw {x : Int32} {N : Nat} (hN : N < 2 ^ 31) (h : ∀ k, k < N → ¬ x = nI k) : x.toInt < 0 ∨ (N : Int) - 1 < x.toInt := by
  rcases (show x.toInt < 0 ∨ 0 ≤ x.toInt by omega) with q | q
  · exact Or.inl q
  · rcases (show (N : Int) - 1 < x.toInt ∨ x.toInt ≤ (N : Int) - 1 by omega) with q2 | q2
    · exact Or.inr q2
    · exfalso
      refine h x.toInt.toNat (by omega) (i32_toInt ?_)
      rw [nI_toInt (by omega)]
      omega
theorem tsw3 {x : Int32} (h0 : ¬ x = 0) (h1 : ¬ x = 1) (h2 : ¬ x = 2) : x.toInt < 0 ∨ 2 < x.toInt := tsw (N := 3) (by decide) (fun k hk => by
  rcases (show k = 0 ∨ k = 1 ∨ k = 2 by omega) with rfl | rfl | rfl
  · exact h0
  · exact h1
  · exact h2)
theorem r_inj {D : Gt} {A : Nat → Prop} {n : Nat} {T : List Nat} {ad : Nat → Nat} {f : Nat → va_E} {p : Program} {l : Launch} {e : Env} {R : Room} {s : State} {m : MethodId} {args : Array Value} {below : List Frame} {meth : Method} {c : Code} {cells slots : Nat} {Q : State → Prop} {pc : Nat} {L : List (Option Value)} {st : List Value} (kk : (∀ a b : Nat, a ∈ T → b ∈ T → ad a = ad b → a = b) → V D A n (T, ad, f) p l e R s m args below meth c cells slots Q pc L st) : V D A n (T, ad, f) p l e R s m args below meth c cells slots Q pc L st := fun H locs ls hP hD hS hl => by
  refine kk (fun a b ha hb hab => ?_) H locs ls hP hD hS hl
  obtain ⟨i, hi, hwi⟩ := wS_at (ad := ad) (f := f) ha
  obtain ⟨j, hj, hwj⟩ := wS_at (ad := ad) (f := f) hb
  have h := hD.1 i j _ _ hwi hwj hab
  subst h
  exact Option.some.inj (hi.symm.trans hj)
def PRs (nr : Nat) (σ : Mm) : Prop := ∀ i, i < 40 → (¬ σ 2 i = 0 ↔ i < nr)
def PGs (ng : Nat) (σ : Mm) : Prop := ∀ i, i < 80 → (¬ σ 11 i = 0 ↔ i < ng)
def tOK (nr : Nat) (σ : Mm) : Prop := σ 9 0 = 0 ∨ ∃ j, j < nr ∧ σ 9 0 = nI (j + 1)
def sumF (h : Nat → Int32) : Nat → Int32
  | 0 => 0
  | k + 1 => sumF h k + h k
noncomputable def rwC (σ : Mm) : Nat → Int32
  | 0 => 0
  | k + 1 => iF (¬ σ 2 k = 0 ∧ ¬ σ 28 k = 3) (rwC σ k + σ 23 k) (rwC σ k)
noncomputable def pwC (σ : Mm) : Nat → Int32
  | 0 => 0
  | k + 1 => iF (¬ σ 11 k = 0) (pwC σ k + σ 47 k) (pwC σ k)
noncomputable def wpC (σ : Mm) : Nat → Int32
  | 0 => 0
  | k + 1 => iF (¬ σ 11 k = 0 ∧ ¬ σ 48 k = -1 ∧ ¬ σ 48 k = σ 42 k) (wpC σ k + 1) (wpC σ k)
noncomputable def opC (σ : Mm) : Nat → Mm
  | 0 => σ
  | k + 1 => iF (¬ opC σ k 2 k = 0 ∧ opC σ k 28 k = 1) (up (up (opC σ k) 28 k 0) 30 k (-1)) (opC σ k)
theorem iF_row {P : Prop} {a b : Mm} {r : Nat} {g : Nat → Int32} (ha : a r = g) (hb : b r = g) : iF P a b r = g := by
  by_cases h : P
  · rw [iF_t h]; exact ha
  · rw [iF_f h]; exact hb
theorem opC_r (σ : Mm) {r : Nat} (h1 : r ≠ 28) (h2 : r ≠ 30) : ∀ k, opC σ k r = σ r
  | 0 => rfl
  | k + 1 => iF_row (by rw [up_ne h2, up_ne h1]; exact opC_r σ h1 h2 k) (opC_r σ h1 h2 k)
noncomputable def bfC (σ : Mm) : Nat → Int32
  | 0 => -1
  | k + 1 => iF (σ 7 k = -1 ∧ (bfC σ k = -1 ∨ σ 6 (bfC σ k).toNatClampNeg < σ 6 k)) (nI k) (bfC σ k)
def offd (σ : Mm) (x : Int32) : Prop := ∃ b, b < 5 ∧ σ 7 b = x
noncomputable def rfC (σ : Mm) : Nat → Int32
  | 0 => -1
  | k + 1 => iF (¬ offd σ (nI k) ∧ (rfC σ k = -1 ∨ σ 8 (rfC σ k).toNatClampNeg < σ 8 k)) (nI k) (rfC σ k)
noncomputable def pbC (σ : Mm) : Nat → Nat
  | 0 => 0
  | k + 1 => iF (σ 8 (k + 1) < σ 8 (pbC σ k)) (k + 1) (pbC σ k)
noncomputable def deC (σ : Mm) : Nat → Option Nat
  | 0 => none
  | k + 1 => iF (¬ σ 2 k = 0 ∧ canC σ k ∧ ∀ d, deC σ k = some d → valC σ d < valC σ k) (some k) (deC σ k)
noncomputable def twC (σ : Mm) : Nat → Int32
  | 0 => -1
  | k + 1 => iF (σ 9 1 ≤ σ 10 k ∧ (twC σ k = -1 ∨ σ 10 (twC σ k).toNatClampNeg < σ 10 k ∨ (σ 10 k = σ 10 (twC σ k).toNatClampNeg ∧ σ 6 (twC σ k).toNatClampNeg < σ 6 k))) (nI k) (twC σ k)
noncomputable def endT (σ : Mm) (i : Nat) : Mm := iF (σ 9 0 = nI (i + 1)) (up σ 9 0 0) σ
def chg (x y : Int32) : Int32 := mxI 0 (mnI 100 (x + y))
theorem ix_lt {f : Nat → Int32} (h0 : f 0 = -1) (hs : ∀ k, f (k + 1) = nI k ∨ f (k + 1) = f k) : ∀ k, f k = -1 ∨ ∃ j, j < k ∧ f k = nI j
  | 0 => Or.inl h0
  | k + 1 => by
    rcases hs k with h | h
    · exact Or.inr ⟨k, by omega, h⟩
    · rcases ix_lt h0 hs k with g | ⟨j, g1, g2⟩
      · exact Or.inl (h.trans g)
      · exact Or.inr ⟨j, by omega, h.trans g2⟩
theorem iF_or {α : Type} {P : Prop} {a b : α} : iF P a b = a ∨ iF P a b = b := by
  by_cases h : P
  · exact Or.inl (iF_t h)
  · exact Or.inr (iF_f h)
theorem bfC_ix (σ : Mm) : ∀ k, bfC σ k = -1 ∨ ∃ j, j < k ∧ bfC σ k = nI j := ix_lt rfl (fun _ => iF_or)
theorem rfC_ix (σ : Mm) : ∀ k, rfC σ k = -1 ∨ ∃ j, j < k ∧ rfC σ k = nI j := ix_lt rfl (fun _ => iF_or)
theorem twC_ix (σ : Mm) : ∀ k, twC σ k = -1 ∨ ∃ j, j < k ∧ twC σ k = nI j := ix_lt rfl (fun _ => iF_or)
theorem pbC_le (σ : Mm) : ∀ k, pbC σ k ≤ k
  | 0 => Nat.le_refl 0
  | k + 1 => by
    have h := pbC_le σ k
    rcases iF_or (P := σ 8 (k + 1) < σ 8 (pbC σ k)) (a := k + 1) (b := pbC σ k) with g | g
    · exact Nat.le_of_eq g
    · rw [pbC, g]; omega
theorem deC_lt (σ : Mm) : ∀ k d, deC σ k = some d → d < k ∧ ¬ σ 2 d = 0 ∧ canC σ d
  | 0, d, h => by cases h
  | k + 1, d, h => by
    by_cases g : ¬ σ 2 k = 0 ∧ canC σ k ∧ ∀ d, deC σ k = some d → valC σ d < valC σ k
    · rw [deC, iF_t g] at h
      cases h
      exact ⟨by omega, g.1, g.2.1⟩
    · rw [deC, iF_f g] at h
      obtain ⟨h1, h2⟩ := deC_lt σ k d h
      exact ⟨by omega, h2⟩
theorem ix_of {x : Int32} {N : Nat} (hN : N < 2 ^ 31) (h : 0 ≤ x ∧ x < nI N) : ∃ j : Nat, j < N ∧ x = nI j := by
  have h1 : 0 ≤ x.toInt := by
    have := Int32.le_iff_toInt_le.mp h.1
    simpa using this
  have h2 : x.toInt < (N : Int) := by
    have := Int32.lt_iff_toInt_lt.mp h.2
    rw [nI_toInt hN] at this
    exact this
  refine ⟨x.toInt.toNat, by omega, i32_toInt ?_⟩
  rw [nI_toInt (by omega)]
  omega
section AROWS
variable {D : Gt} {A : Nat → Prop} {own : String} {cc : ByteArray} {n : Nat} {ret : Option FieldType} {tb : List ExceptionTableEntry} {p : Program} {l : Launch} {e : Env} {R : Room} {s : State} {m : MethodId} {args : Array Value} {below : List Frame} {meth : Method} {c : Code} {cells slots : Nat} {Q : State → Prop} {pc : Nat} {L : List (Option Value)} {st : List Value} {T : List Nat} {ad : Nat → Nat} {σ : Mm} {nr ng : Nat}
theorem b2 (C : CX D A own cc n ret tb p s m args meth c) (hT : TG nr ng T) {i : Nat} (hi : i < nr) {x : Int32} (hx : x = nI i) (d : decode cc pc = .ok (.aastore, 1)) (kk : V D A n (T, ad, cO D ad (up σ 2 i 1)) p l e R s m args below meth c cells slots Q (pc + 1) L st) : V D A n (T, ad, cO D ad σ) p l e R s m args below meth c cells slots Q pc L (.ref (ad (100 + i)) :: .int x :: .ref (ad 2) :: st) := by
  have h40 := hT.1
  exact r_aast C (hT.f (k := 2) (by decide)) (tk := 1) (r := (RX3, TX3, 12)) rfl rfl (hT.r hi) (ci := 3) (cO_ro hT hi) rfl hx (show i < 40 by omega) (by decide) (fun q => u_2 (by decide) q) d kk
theorem b11 (C : CX D A own cc n ret tb p s m args meth c) (hT : TG nr ng T) {i : Nat} (hi : i < ng) {x : Int32} (hx : x = nI i) (d : decode cc pc = .ok (.aastore, 1)) (kk : V D A n (T, ad, cO D ad (up σ 11 i 1)) p l e R s m args below meth c cells slots Q (pc + 1) L st) : V D A n (T, ad, cO D ad σ) p l e R s m args below meth c cells slots Q pc L (.ref (ad (200 + i)) :: .int x :: .ref (ad 11) :: st) := by
  have h80 := hT.2.1
  exact r_aast C (hT.f (k := 11) (by decide)) (tk := 2) (r := (RX0, TX0, 9)) rfl rfl (hT.g hi) (ci := 0) (cO_ge hT hi) rfl hx (show i < 80 by omega) (by decide) (fun q => u_11 (by decide) q) d kk
end AROWS
def nbN (σ : Mm) : Nat := (σ 0 9).toNatClampNeg
noncomputable def stepC (σ : Mm) (i : Nat) : Mm := endT (up (up (up σ 8 (pbC σ (nbN σ - 1)) (σ 8 (pbC σ (nbN σ - 1)) + valC σ i)) 28 i 1) 30 i (nI (pbC σ (nbN σ - 1)))) i
noncomputable def fillG : Nat → Mm → Mm
  | 0, σ => σ
  | f + 1, σ => match deC σ 40 with
    | none => σ
    | some i => fillG f (stepC σ i)
noncomputable def fillN : Nat → Mm → Nat
  | 0, _ => 0
  | f + 1, σ => match deC σ 40 with
    | none => 0
    | some i => fillN f (stepC σ i) + 1
noncomputable def stepO (σ : Mm) : Mm := iF (bfC σ 5 = -1) σ (up σ 7 (bfC σ 5).toNatClampNeg (rfC σ (nbN σ)))
noncomputable def offG (σ : Mm) : Nat → Mm
  | 0 => σ
  | k + 1 => stepO (offG σ k)
def clr (fl : Int32) (k : Nat) : Prop := (fl >>> (nI k &&& 31)) &&& 1 = 0
noncomputable def endC (fl : Int32) : Nat → Nat → Nat
  | 0, e => e
  | f + 1, e => iF (e < 12 ∧ clr fl e) (endC fl f (e + 1)) e
def ww (n : Nat) : Nat := if 2 ≤ n then n else 0
noncomputable def plN (fl : Int32) (k : Nat) : Nat := iF (0 < k ∧ clr fl (k - 1)) 0 (ww (endC fl 12 k - k))
noncomputable def pcN (fl : Int32) : Nat → Nat
  | 0 => 0
  | k + 1 => iF (0 < plN fl k) (pcN fl k + 1) (pcN fl k)
noncomputable def wbW (fl : Int32) : Nat → Nat × Nat
  | 0 => (0, 0)
  | k + 1 => iF (clr fl k) ((wbW fl k).1, (wbW fl k).2 + 1) ((wbW fl k).1 + ww (wbW fl k).2 * (wbW fl k).2, 0)
theorem endC_ge (fl : Int32) : ∀ f e, e ≤ endC fl f e
  | 0, e => Nat.le_refl e
  | f + 1, e => by
    rcases iF_or (P := e < 12 ∧ clr fl e) (a := endC fl f (e + 1)) (b := e) with h | h
    · rw [endC, h]; have := endC_ge fl f (e + 1); omega
    · rw [endC, h]; exact Nat.le_refl e
theorem endC_le (fl : Int32) : ∀ f e, e ≤ 12 → endC fl f e ≤ 12
  | 0, e, h => h
  | f + 1, e, h => by
    by_cases q : e < 12 ∧ clr fl e
    · rw [endC, iF_t q]; exact endC_le fl f (e + 1) (by omega)
    · rw [endC, iF_f q]; exact h
theorem plN_le (fl : Int32) (k : Nat) (hk : k ≤ 12) : plN fl k ≤ 12 := by
  unfold plN ww
  rcases iF_or (P := 0 < k ∧ clr fl (k - 1)) (a := 0) (b := if 2 ≤ endC fl 12 k - k then endC fl 12 k - k else 0) with h | h
  · rw [h]; omega
  · rw [h]; have := endC_le fl 12 k hk; split <;> omega
theorem ww_I {n : Nat} (h : n < 2 ^ 31) : iF (2 ≤ nI n) (nI n) 0 = nI (ww n) := by
  show iF (nI 2 ≤ nI n) (nI n) 0 = _
  unfold ww
  by_cases q : 2 ≤ n
  · rw [if_pos q, iF_t ((nI_leI (a := 2) (by decide) h).mpr q)]
  · rw [if_neg q, iF_f (fun z => q ((nI_leI (a := 2) (by decide) h).mp z))]
    rfl
theorem endC_fuel (fl : Int32) : ∀ (f g e : Nat), e ≤ 12 → 12 ≤ e + f → 12 ≤ e + g → endC fl f e = endC fl g e
  | 0, 0, e, _, _, _ => rfl
  | 0, g + 1, e, h1, h2, _ => by
    have : e = 12 := by omega
    subst this
    exact (iF_f (fun h => absurd h.1 (by omega))).symm
  | f + 1, 0, e, h1, _, h3 => by
    have : e = 12 := by omega
    subst this
    exact iF_f (fun h => absurd h.1 (by omega))
  | f + 1, g + 1, e, h1, h2, h3 => by
    by_cases q : e < 12 ∧ clr fl e
    · rw [endC, endC, iF_t q, iF_t q]
      exact endC_fuel fl f g (e + 1) (by omega) (by omega) (by omega)
    · rw [endC, endC, iF_f q, iF_f q]
theorem wbW_le (fl : Int32) : ∀ k, (wbW fl k).2 ≤ k
  | 0 => Nat.le_refl 0
  | k + 1 => by
    by_cases q : clr fl k
    · rw [wbW, iF_t q]; have := wbW_le fl k; show (wbW fl k).2 + 1 ≤ k + 1; omega
    · rw [wbW, iF_f q]; exact Nat.zero_le _
theorem offG_r (σ : Mm) {r : Nat} (h : r ≠ 7) : ∀ k, offG σ k r = σ r
  | 0 => rfl
  | k + 1 => iF_row (offG_r σ h k) (by rw [up_ne h]; exact offG_r σ h k)
theorem nI_nem1 {j : Nat} (h : j < 2 ^ 31) : ¬ nI j = -1 := fun q => by
  have h1 := congrArg Int32.toInt q
  rw [nI_toInt h] at h1
  have h2 : (-1 : Int32).toInt = -1 := by decide
  omega
theorem endT_r (σ : Mm) (i : Nat) {r : Nat} (h : r ≠ 9) : endT σ i r = σ r := iF_row (up_ne h) rfl
theorem stepC_r (σ : Mm) (i : Nat) {r : Nat} (h1 : r ≠ 8) (h2 : r ≠ 28) (h3 : r ≠ 30) (h4 : r ≠ 9) : stepC σ i r = σ r := by
  unfold stepC
  rw [endT_r _ _ h4, up_ne h3, up_ne h2, up_ne h1]
theorem qualC_cg {σ τ : Mm} {i : Nat} (h1 : τ 33 = σ 33) (h2 : τ 34 = σ 34) (h3 : τ 35 = σ 35) (h4 : τ 36 = σ 36) : qualC τ i = qualC σ i := by
  unfold qualC
  rw [h1, h2, h3, h4]
theorem endT_ok {nr : Nat} {σ : Mm} (h : tOK nr σ) (i : Nat) : tOK nr (endT σ i) := by
  by_cases q : σ 9 0 = nI (i + 1)
  · refine Or.inl ?_
    rw [endT, iF_t q]; exact up_self
  · rw [endT, iF_f q]; exact h
theorem stepC_I {nr nb i : Nat} {τ : Mm} (hI : PRs nr τ ∧ (∀ i, i < nr → qOK (qualC τ i)) ∧ τ 0 9 = nI nb ∧ tOK nr τ) (h5 : pbC τ (nbN τ - 1) < 2 ^ 31 ∨ True) : PRs nr (stepC τ i) ∧ (∀ j, j < nr → qOK (qualC (stepC τ i) j)) ∧ stepC τ i 0 9 = nI nb ∧ tOK nr (stepC τ i) := by
  refine ⟨?_, ?_, ?_, ?_⟩
  · unfold PRs
    rw [stepC_r τ i (by decide) (by decide) (by decide) (by decide)]
    exact hI.1
  · intro j hj
    rw [qualC_cg (stepC_r τ i (by decide) (by decide) (by decide) (by decide)) (stepC_r τ i (by decide) (by decide) (by decide) (by decide)) (stepC_r τ i (by decide) (by decide) (by decide) (by decide)) (stepC_r τ i (by decide) (by decide) (by decide) (by decide))]
    exact hI.2.1 j hj
  · rw [stepC_r τ i (by decide) (by decide) (by decide) (by decide)]
    exact hI.2.2.1
  · unfold stepC
    apply endT_ok
    unfold tOK
    rw [up_ne (by decide), up_ne (by decide), up_ne (by decide)]
    exact hI.2.2.2
theorem fillG_n {σ : Mm} (f : Nat) (h : deC σ 40 = none) : fillG f σ = σ := by
  cases f with
  | zero => rfl
  | succ f => rw [fillG, h]
theorem fillN_n {σ : Mm} (f : Nat) (h : deC σ 40 = none) : fillN f σ = 0 := by
  cases f with
  | zero => rfl
  | succ f => rw [fillN, h]
theorem fillG_s {σ : Mm} {i : Nat} (f : Nat) (h : deC σ 40 = some i) : fillG (f + 1) σ = fillG f (stepC σ i) := by rw [fillG, h]
theorem fillN_s {σ : Mm} {i : Nat} (f : Nat) (h : deC σ 40 = some i) : fillN (f + 1) σ = fillN f (stepC σ i) + 1 := by rw [fillN, h]
/-- what the book's own methods lean on -/
def IC (nr ng np nb : Nat) (σ : Mm) : Prop := PRs nr σ ∧ PGs ng σ ∧ (σ 0 1 = nI np ∧ np ≤ 12) ∧ σ 0 3 = nI nr ∧ σ 0 12 = nI ng ∧ (σ 0 9 = nI nb ∧ nb ≤ 5) ∧ tOK nr σ ∧ (∀ i, i < nr → qOK (qualC σ i)) ∧ ∀ i, i < np → ∃ a, a < 4 ∧ σ 1 i = nI a
noncomputable def bvC (σ : Mm) (x : Int32) : Nat → Int32
  | 0 => 0
  | k + 1 => iF (¬ σ 2 k = 0 ∧ σ 30 k = x) (bvC σ x k + valC σ k) (bvC σ x k)
noncomputable def tkC (σ : Mm) (x b t : Int32) : Nat → Mm
  | 0 => σ
  | k + 1 => iF (¬ tkC σ x b t k 2 k = 0 ∧ tkC σ x b t k 30 k = x) (iF (t = 0) (up (up (tkC σ x b t k) 28 k 0) 30 k (-1)) (up (up (up (up (tkC σ x b t k) 28 k 0) 30 k (-1)) 28 k 2) 29 k b)) (tkC σ x b t k)
theorem tkC_r (σ : Mm) (x b t : Int32) {r : Nat} (h1 : r ≠ 28) (h2 : r ≠ 30) (h3 : r ≠ 29) : ∀ k, tkC σ x b t k r = σ r
  | 0 => rfl
  | k + 1 => iF_row (iF_row (by rw [up_ne h2, up_ne h1]; exact tkC_r σ x b t h1 h2 h3 k) (by rw [up_ne h3, up_ne h1, up_ne h2, up_ne h1]; exact tkC_r σ x b t h1 h2 h3 k)) (tkC_r σ x b t h1 h2 h3 k)
noncomputable def plS (fl : Int32) : Nat → Nat
  | 0 => 0
  | k + 1 => plS fl k + plN fl k * plN fl k
noncomputable def wbN (x : Int32) : Nat := (wbW x 12).1 + ww (wbW x 12).2 * (wbW x 12).2
noncomputable def paS (fl : Int32) : Nat → Int32
  | 0 => 0
  | k + 1 => iF (nI k &&& fl = fl) (mxI (paS fl k) (nI (wbN (nI k)))) (paS fl k)
noncomputable def siC (σ : Mm) (i : Nat) (y : Int32) : Int32 := iF (y = 0) (σ 28 i) (iF (y = 1) (qualC σ i) (iF (y = 2) (bI (dblC σ i)) (iF (y = 3) (σ 29 i) (iF (y = 4) (σ 30 i) (iF (y = 5) (σ 21 i) (σ 31 i))))))
theorem opn_s {D : Gt} {ad : Nat → Nat} {σ : Mm} {nr ng : Nat} {T : List Nat} {i : Nat} (hT : TG nr ng T) (hi : i < nr) {y0 y1 y2 y3 y4 : Int32} : va_up (cO D ad σ) (150 + i) (.inr (1, [.int y0, .int y1, .int y2, .int y3, .int y4])) = cO D ad (up (up (up (up (up σ 32 i y0) 33 i y1) 34 i y2) 35 i y3) 36 i y4) := by
  have h40 := hT.1
  have h50 : i < 50 := by omega
  rw [show cO D ad (up (up (up (up (up σ 32 i y0) 33 i y1) 34 i y2) 35 i y3) 36 i y4) = _ from funext (fun q => u_s_4 h50 q), show cO D ad (up (up (up (up σ 32 i y0) 33 i y1) 34 i y2) 35 i y3) = _ from funext (fun q => u_s_3 h50 q), show cO D ad (up (up (up σ 32 i y0) 33 i y1) 34 i y2) = _ from funext (fun q => u_s_2 h50 q), show cO D ad (up (up σ 32 i y0) 33 i y1) = _ from funext (fun q => u_s_1 h50 q), show cO D ad (up σ 32 i y0) = _ from funext (fun q => u_s_0 h50 q)]
  rw [up_up, up_up, up_up, up_up]
  congr 1
  simp only [up_self, up_ne (show (32 : Nat) ≠ 33 by decide), up_ne (show (32 : Nat) ≠ 34 by decide), up_ne (show (32 : Nat) ≠ 35 by decide), up_ne (show (33 : Nat) ≠ 34 by decide), up_ne (show (33 : Nat) ≠ 35 by decide), up_ne (show (34 : Nat) ≠ 35 by decide)]
theorem opn_l {D : Gt} {ad : Nat → Nat} {σ : Mm} {nr ng : Nat} {T : List Nat} {i : Nat} (hT : TG nr ng T) (hi : i < ng) {y0 y1 y2 y3 y4 : Int32} : va_up (cO D ad σ) (300 + i) (.inr (1, [.int y0, .int y1, .int y2, .int y3, .int y4])) = cO D ad (up (up (up (up (up σ 50 i y0) 51 i y1) 52 i y2) 53 i y3) 54 i y4) := by
  have h80 := hT.2.1
  have h50 : i < 90 := by omega
  rw [show cO D ad (up (up (up (up (up σ 50 i y0) 51 i y1) 52 i y2) 53 i y3) 54 i y4) = _ from funext (fun q => u_l_4 h50 q), show cO D ad (up (up (up (up σ 50 i y0) 51 i y1) 52 i y2) 53 i y3) = _ from funext (fun q => u_l_3 h50 q), show cO D ad (up (up (up σ 50 i y0) 51 i y1) 52 i y2) = _ from funext (fun q => u_l_2 h50 q), show cO D ad (up (up σ 50 i y0) 51 i y1) = _ from funext (fun q => u_l_1 h50 q), show cO D ad (up σ 50 i y0) = _ from funext (fun q => u_l_0 h50 q)]
  rw [up_up, up_up, up_up, up_up]
  congr 1
  simp only [up_self, up_ne (show (50 : Nat) ≠ 51 by decide), up_ne (show (50 : Nat) ≠ 52 by decide), up_ne (show (50 : Nat) ≠ 53 by decide), up_ne (show (51 : Nat) ≠ 52 by decide), up_ne (show (51 : Nat) ≠ 53 by decide), up_ne (show (52 : Nat) ≠ 53 by decide)]
noncomputable def opB (σ : Mm) (x : Int32) : Mm := up (upR (upR (opC σ 40) 7 (fillF (σ 7) (-1) 5)) 8 (fillF (σ 8) 0 5)) 0 9 x
theorem opB_r (σ : Mm) (x : Int32) {r : Nat} (h1 : r ≠ 28) (h2 : r ≠ 30) (h3 : r ≠ 7) (h4 : r ≠ 8) (h5 : r ≠ 0) : opB σ x r = σ r := by
  unfold opB
  rw [up_ne h5, upR_ne h4, upR_ne h3, opC_r σ h1 h2]
theorem fillG_r {r : Nat} (h1 : r ≠ 8) (h2 : r ≠ 28) (h3 : r ≠ 30) (h4 : r ≠ 9) : ∀ (f : Nat) (σ : Mm), fillG f σ r = σ r
  | 0, _ => rfl
  | f + 1, σ => by
    cases hd : deC σ 40 with
    | none => rw [fillG_n _ hd]
    | some i => rw [fillG_s _ hd, fillG_r h1 h2 h3 h4 f, stepC_r _ _ h1 h2 h3 h4]
theorem PRs_cg {nr : Nat} {σ τ : Mm} (h : τ 2 = σ 2) (hp : PRs nr σ) : PRs nr τ := by
  unfold PRs
  rw [h]; exact hp
theorem tOK_cg {nr : Nat} {σ τ : Mm} (h : τ 9 = σ 9) (hp : tOK nr σ) : tOK nr τ := by
  unfold tOK
  rw [h]; exact hp
noncomputable def clsC (σ : Mm) (i : Nat) : Mm := iF (twC σ 5 = -1) (up σ 9 0 0) (up (up (up (up σ 31 i (payC σ (twC σ 5) 5)) 28 i 2) 29 i (twC σ 5)) 9 0 0)
noncomputable def poC (σ : Mm) (i : Nat) (y : Int32) : Int32 := iF (y = 0) (σ 40 i) (iF (y = 1) (σ 47 i) (iF (y = 2) (σ 44 i) (iF (y = 3) (σ 45 i) (iF (y = 4) (σ 43 i) (iF (y = 5) (gradeC σ i) (iF (y = 6) (gpS (σ 47 i) (gradeC σ i)) (iF (y = 7) (σ 48 i) (σ 42 i))))))))
noncomputable def alC (σ : Mm) (y : Int32) : Int32 := iF (y = 0) (sumF (σ 13) 4) (iF (y = 1) (rwC σ 40) (iF (y = 2) (pwC σ 80) (iF (y = 3) (σ 0 13) (iF (y = 4) (sumF (σ 14) 4) (wpC σ 80)))))
theorem rg_of {x : Int32} {a b : Nat} (hb : a ≤ b ∧ b < 2 ^ 31) (h : nI a ≤ x ∧ x ≤ nI b) : ∃ m : Nat, a ≤ m ∧ m ≤ b ∧ x = nI m := by
  obtain ⟨hab, hb⟩ := hb
  have h1 := Int32.le_iff_toInt_le.mp h.1
  have h2 := Int32.le_iff_toInt_le.mp h.2
  rw [nI_toInt (by omega)] at h1
  rw [nI_toInt hb] at h2
  refine ⟨x.toInt.toNat, by omega, by omega, i32_toInt ?_⟩
  rw [nI_toInt (by omega)]
  omega

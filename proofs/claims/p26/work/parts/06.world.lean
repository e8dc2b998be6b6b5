/-! ===== the world of the book and of its reference: tags, rows ===== -/
def oBook (ad : Nat → Nat) (σ : Mm) : va_E := .inr (5, [.ref (ad 1), .int (σ 0 1), .ref (ad 2), .int (σ 0 3), .ref (ad 3), .ref (ad 4), .ref (ad 6), .ref (ad 7), .ref (ad 8), .int (σ 0 9), .ref (ad 9), .ref (ad 11), .int (σ 0 12), .int (σ 0 13), .ref (ad 12), .ref (ad 13), .ref (ad 14)])
def oRough (ad : Nat → Nat) (σ : Mm) (i : Nat) : va_E := .inr (3, [.int (σ 20 i), .int (σ 21 i), .int (σ 22 i), .int (σ 23 i), .int (σ 24 i), .int (σ 25 i), .int (σ 26 i), .ref (ad (150 + i)), .int (σ 28 i), .int (σ 29 i), .int (σ 30 i), .int (σ 31 i)])
def oGem (ad : Nat → Nat) (σ : Mm) (i : Nat) : va_E := .inr (0, [.int (σ 40 i), .int (σ 41 i), .int (σ 42 i), .int (σ 43 i), .int (σ 44 i), .int (σ 45 i), .ref (ad (300 + i)), .int (σ 47 i), .int (σ 48 i)])
def oOpn (σ : Mm) (b i : Nat) : va_E := .inr (1, [.int (σ b i), .int (σ (b + 1) i), .int (σ (b + 2) i), .int (σ (b + 3) i), .int (σ (b + 4) i)])
def clen (t : Nat) : Nat := if t = 1 then 12 else if t = 3 then 4 else if t = 5 then 76 else if t = 6 then 5 else if t = 7 then 5 else if t = 8 then 5 else if t = 10 then 5 else if t = 12 then 3 else if t = 13 then 4 else if t = 14 then 4 else 0
def tdr (ad : Nat → Nat) (x : Int32) : Option Nat := if x = 0 then none else some (ad (99 + x.toNatClampNeg))
def oTender (ad : Nat → Nat) (σ : Mm) : va_E := .inr (4, [va_rf (tdr ad (σ 9 0)), .int (σ 9 1), .ref (ad 10)])
def rfs (ad : Nat → Nat) (b : Nat) (h : Nat → Int32) : Nat → Option Nat := fun i => if h i = 0 then none else some (ad (b + i))
def cO (D : Gt) (ad : Nat → Nat) (σ : Mm) (q : Nat) : va_E :=
  if q < 20 then (if q = 0 then oBook ad σ else if q = 2 then .inl (D.2 3, 40, .inr (.inr (.inr (.inr (rfs ad 100 (σ 2)))))) else if q = 4 then .inr (2, [.ref (ad 5)]) else if q = 9 then oTender ad σ else if q = 11 then .inl (D.2 4, 80, .inr (.inr (.inr (.inr (rfs ad 200 (σ 11)))))) else .inl (D.2 0, clen q, .inl (σ q)))
  else if q < 100 then .inr (0, []) else if q < 150 then oRough ad σ (q - 100) else if q < 200 then oOpn σ 32 (q - 150) else if q < 300 then oGem ad σ (q - 200) else if q < 390 then oOpn σ 50 (q - 300) else .inr (0, [])
theorem up_ne {σ : Mm} {r j r2 : Nat} {x : Int32} (h : r2 ≠ r) : up σ r j x r2 = σ r2 := if_neg h
theorem up_eq {σ : Mm} {r j : Nat} {x : Int32} : up σ r j x r = upd (σ r) j x := if_pos rfl
theorem up_nj {σ : Mm} {r j r2 j2 : Nat} {x : Int32} (h : j2 ≠ j) : up σ r j x r2 j2 = σ r2 j2 := by
  by_cases e : r2 = r
  · subst e; rw [up_eq]; exact if_neg h
  · rw [up_ne e]
theorem up_self {σ : Mm} {r j : Nat} {x : Int32} : up σ r j x r j = x := by rw [up_eq]; exact if_pos rfl
theorem ite_cg {c : Prop} [Decidable c] {α : Type} {a a2 b b2 : α} (h1 : c → a = a2) (h2 : ¬ c → b = b2) : (if c then a else b) = (if c then a2 else b2) := by
  by_cases h : c
  · rw [if_pos h, if_pos h]; exact h1 h
  · rw [if_neg h, if_neg h]; exact h2 h
theorem cO_r {D : Gt} {ad : Nat → Nat} {σ : Mm} {i : Nat} (h : i < 50) : cO D ad σ (100 + i) = oRough ad σ i := by
  unfold cO
  rw [if_neg (by omega), if_neg (by omega), if_pos (by omega), Nat.add_sub_cancel_left]
theorem cO_s {D : Gt} {ad : Nat → Nat} {σ : Mm} {i : Nat} (h : i < 50) : cO D ad σ (150 + i) = oOpn σ 32 i := by
  unfold cO
  rw [if_neg (by omega), if_neg (by omega), if_neg (by omega), if_pos (by omega), Nat.add_sub_cancel_left]
theorem cO_g {D : Gt} {ad : Nat → Nat} {σ : Mm} {i : Nat} (h : i < 90) : cO D ad σ (200 + i) = oGem ad σ i := by
  unfold cO
  rw [if_neg (by omega), if_neg (by omega), if_neg (by omega), if_neg (by omega), if_pos (by omega), Nat.add_sub_cancel_left]
theorem cO_l {D : Gt} {ad : Nat → Nat} {σ : Mm} {i : Nat} (h : i < 90) : cO D ad σ (300 + i) = oOpn σ 50 i := by
  unfold cO
  rw [if_neg (by omega), if_neg (by omega), if_neg (by omega), if_neg (by omega), if_neg (by omega), if_pos (by omega), Nat.add_sub_cancel_left]
def upR (σ : Mm) (r : Nat) (g : Nat → Int32) : Mm := fun r2 => if r2 = r then g else σ r2
theorem upR_ne {σ : Mm} {r r2 : Nat} {g : Nat → Int32} (h : r2 ≠ r) : upR σ r g r2 = σ r2 := if_neg h
theorem upR_eq {σ : Mm} {r : Nat} {g : Nat → Int32} : upR σ r g r = g := if_pos rfl
theorem u_1 {D : Gt} {ad : Nat → Nat} {σ : Mm} {j : Nat} {x : Int32} (q : Nat) : cO D ad (up σ 1 j x) q = va_up (cO D ad σ) 1 (.inl (D.2 0, 12, .inl (upd (σ 1) j x))) q := by
  by_cases hq : q = 1
  · subst hq
    rw [va_up_self]
    rfl
  · rw [va_up_ne _ _ hq]
    exact ite_cg (fun h_bookx => ite_cg (fun hbook => rfl) (fun h_roughsx => ite_cg (fun hroughs => rfl) (fun h_pbx => ite_cg (fun hpb => rfl) (fun h_tenderx => ite_cg (fun htender => rfl) (fun h_gemsx => ite_cg (fun hgems => rfl) (fun harrC => by rw [up_ne (r := 1) (r2 := q) (by omega)])))))) (fun h_junk1y => ite_cg (fun hjunk1 => rfl) (fun h_roughy => ite_cg (fun hrough => rfl) (fun h_opRy => ite_cg (fun hopR => rfl) (fun h_gemy => ite_cg (fun hgem => rfl) (fun h_opGy => ite_cg (fun hopG => rfl) (fun hjunk3 => rfl))))))
theorem u_3 {D : Gt} {ad : Nat → Nat} {σ : Mm} {j : Nat} {x : Int32} (q : Nat) : cO D ad (up σ 3 j x) q = va_up (cO D ad σ) 3 (.inl (D.2 0, 4, .inl (upd (σ 3) j x))) q := by
  by_cases hq : q = 3
  · subst hq
    rw [va_up_self]
    rfl
  · rw [va_up_ne _ _ hq]
    exact ite_cg (fun h_bookx => ite_cg (fun hbook => rfl) (fun h_roughsx => ite_cg (fun hroughs => rfl) (fun h_pbx => ite_cg (fun hpb => rfl) (fun h_tenderx => ite_cg (fun htender => rfl) (fun h_gemsx => ite_cg (fun hgems => rfl) (fun harrC => by rw [up_ne (r := 3) (r2 := q) (by omega)])))))) (fun h_junk1y => ite_cg (fun hjunk1 => rfl) (fun h_roughy => ite_cg (fun hrough => rfl) (fun h_opRy => ite_cg (fun hopR => rfl) (fun h_gemy => ite_cg (fun hgem => rfl) (fun h_opGy => ite_cg (fun hopG => rfl) (fun hjunk3 => rfl))))))
theorem u_5 {D : Gt} {ad : Nat → Nat} {σ : Mm} {j : Nat} {x : Int32} (q : Nat) : cO D ad (up σ 5 j x) q = va_up (cO D ad σ) 5 (.inl (D.2 0, 76, .inl (upd (σ 5) j x))) q := by
  by_cases hq : q = 5
  · subst hq
    rw [va_up_self]
    rfl
  · rw [va_up_ne _ _ hq]
    exact ite_cg (fun h_bookx => ite_cg (fun hbook => rfl) (fun h_roughsx => ite_cg (fun hroughs => rfl) (fun h_pbx => ite_cg (fun hpb => rfl) (fun h_tenderx => ite_cg (fun htender => rfl) (fun h_gemsx => ite_cg (fun hgems => rfl) (fun harrC => by rw [up_ne (r := 5) (r2 := q) (by omega)])))))) (fun h_junk1y => ite_cg (fun hjunk1 => rfl) (fun h_roughy => ite_cg (fun hrough => rfl) (fun h_opRy => ite_cg (fun hopR => rfl) (fun h_gemy => ite_cg (fun hgem => rfl) (fun h_opGy => ite_cg (fun hopG => rfl) (fun hjunk3 => rfl))))))
theorem u_6 {D : Gt} {ad : Nat → Nat} {σ : Mm} {j : Nat} {x : Int32} (q : Nat) : cO D ad (up σ 6 j x) q = va_up (cO D ad σ) 6 (.inl (D.2 0, 5, .inl (upd (σ 6) j x))) q := by
  by_cases hq : q = 6
  · subst hq
    rw [va_up_self]
    rfl
  · rw [va_up_ne _ _ hq]
    exact ite_cg (fun h_bookx => ite_cg (fun hbook => rfl) (fun h_roughsx => ite_cg (fun hroughs => rfl) (fun h_pbx => ite_cg (fun hpb => rfl) (fun h_tenderx => ite_cg (fun htender => rfl) (fun h_gemsx => ite_cg (fun hgems => rfl) (fun harrC => by rw [up_ne (r := 6) (r2 := q) (by omega)])))))) (fun h_junk1y => ite_cg (fun hjunk1 => rfl) (fun h_roughy => ite_cg (fun hrough => rfl) (fun h_opRy => ite_cg (fun hopR => rfl) (fun h_gemy => ite_cg (fun hgem => rfl) (fun h_opGy => ite_cg (fun hopG => rfl) (fun hjunk3 => rfl))))))
theorem u_7 {D : Gt} {ad : Nat → Nat} {σ : Mm} {j : Nat} {x : Int32} (q : Nat) : cO D ad (up σ 7 j x) q = va_up (cO D ad σ) 7 (.inl (D.2 0, 5, .inl (upd (σ 7) j x))) q := by
  by_cases hq : q = 7
  · subst hq
    rw [va_up_self]
    rfl
  · rw [va_up_ne _ _ hq]
    exact ite_cg (fun h_bookx => ite_cg (fun hbook => rfl) (fun h_roughsx => ite_cg (fun hroughs => rfl) (fun h_pbx => ite_cg (fun hpb => rfl) (fun h_tenderx => ite_cg (fun htender => rfl) (fun h_gemsx => ite_cg (fun hgems => rfl) (fun harrC => by rw [up_ne (r := 7) (r2 := q) (by omega)])))))) (fun h_junk1y => ite_cg (fun hjunk1 => rfl) (fun h_roughy => ite_cg (fun hrough => rfl) (fun h_opRy => ite_cg (fun hopR => rfl) (fun h_gemy => ite_cg (fun hgem => rfl) (fun h_opGy => ite_cg (fun hopG => rfl) (fun hjunk3 => rfl))))))
theorem u_8 {D : Gt} {ad : Nat → Nat} {σ : Mm} {j : Nat} {x : Int32} (q : Nat) : cO D ad (up σ 8 j x) q = va_up (cO D ad σ) 8 (.inl (D.2 0, 5, .inl (upd (σ 8) j x))) q := by
  by_cases hq : q = 8
  · subst hq
    rw [va_up_self]
    rfl
  · rw [va_up_ne _ _ hq]
    exact ite_cg (fun h_bookx => ite_cg (fun hbook => rfl) (fun h_roughsx => ite_cg (fun hroughs => rfl) (fun h_pbx => ite_cg (fun hpb => rfl) (fun h_tenderx => ite_cg (fun htender => rfl) (fun h_gemsx => ite_cg (fun hgems => rfl) (fun harrC => by rw [up_ne (r := 8) (r2 := q) (by omega)])))))) (fun h_junk1y => ite_cg (fun hjunk1 => rfl) (fun h_roughy => ite_cg (fun hrough => rfl) (fun h_opRy => ite_cg (fun hopR => rfl) (fun h_gemy => ite_cg (fun hgem => rfl) (fun h_opGy => ite_cg (fun hopG => rfl) (fun hjunk3 => rfl))))))
theorem u_10 {D : Gt} {ad : Nat → Nat} {σ : Mm} {j : Nat} {x : Int32} (q : Nat) : cO D ad (up σ 10 j x) q = va_up (cO D ad σ) 10 (.inl (D.2 0, 5, .inl (upd (σ 10) j x))) q := by
  by_cases hq : q = 10
  · subst hq
    rw [va_up_self]
    rfl
  · rw [va_up_ne _ _ hq]
    exact ite_cg (fun h_bookx => ite_cg (fun hbook => rfl) (fun h_roughsx => ite_cg (fun hroughs => rfl) (fun h_pbx => ite_cg (fun hpb => rfl) (fun h_tenderx => ite_cg (fun htender => rfl) (fun h_gemsx => ite_cg (fun hgems => rfl) (fun harrC => by rw [up_ne (r := 10) (r2 := q) (by omega)])))))) (fun h_junk1y => ite_cg (fun hjunk1 => rfl) (fun h_roughy => ite_cg (fun hrough => rfl) (fun h_opRy => ite_cg (fun hopR => rfl) (fun h_gemy => ite_cg (fun hgem => rfl) (fun h_opGy => ite_cg (fun hopG => rfl) (fun hjunk3 => rfl))))))
theorem u_12 {D : Gt} {ad : Nat → Nat} {σ : Mm} {j : Nat} {x : Int32} (q : Nat) : cO D ad (up σ 12 j x) q = va_up (cO D ad σ) 12 (.inl (D.2 0, 3, .inl (upd (σ 12) j x))) q := by
  by_cases hq : q = 12
  · subst hq
    rw [va_up_self]
    rfl
  · rw [va_up_ne _ _ hq]
    exact ite_cg (fun h_bookx => ite_cg (fun hbook => rfl) (fun h_roughsx => ite_cg (fun hroughs => rfl) (fun h_pbx => ite_cg (fun hpb => rfl) (fun h_tenderx => ite_cg (fun htender => rfl) (fun h_gemsx => ite_cg (fun hgems => rfl) (fun harrC => by rw [up_ne (r := 12) (r2 := q) (by omega)])))))) (fun h_junk1y => ite_cg (fun hjunk1 => rfl) (fun h_roughy => ite_cg (fun hrough => rfl) (fun h_opRy => ite_cg (fun hopR => rfl) (fun h_gemy => ite_cg (fun hgem => rfl) (fun h_opGy => ite_cg (fun hopG => rfl) (fun hjunk3 => rfl))))))
theorem u_13 {D : Gt} {ad : Nat → Nat} {σ : Mm} {j : Nat} {x : Int32} (q : Nat) : cO D ad (up σ 13 j x) q = va_up (cO D ad σ) 13 (.inl (D.2 0, 4, .inl (upd (σ 13) j x))) q := by
  by_cases hq : q = 13
  · subst hq
    rw [va_up_self]
    rfl
  · rw [va_up_ne _ _ hq]
    exact ite_cg (fun h_bookx => ite_cg (fun hbook => rfl) (fun h_roughsx => ite_cg (fun hroughs => rfl) (fun h_pbx => ite_cg (fun hpb => rfl) (fun h_tenderx => ite_cg (fun htender => rfl) (fun h_gemsx => ite_cg (fun hgems => rfl) (fun harrC => by rw [up_ne (r := 13) (r2 := q) (by omega)])))))) (fun h_junk1y => ite_cg (fun hjunk1 => rfl) (fun h_roughy => ite_cg (fun hrough => rfl) (fun h_opRy => ite_cg (fun hopR => rfl) (fun h_gemy => ite_cg (fun hgem => rfl) (fun h_opGy => ite_cg (fun hopG => rfl) (fun hjunk3 => rfl))))))
theorem u_14 {D : Gt} {ad : Nat → Nat} {σ : Mm} {j : Nat} {x : Int32} (q : Nat) : cO D ad (up σ 14 j x) q = va_up (cO D ad σ) 14 (.inl (D.2 0, 4, .inl (upd (σ 14) j x))) q := by
  by_cases hq : q = 14
  · subst hq
    rw [va_up_self]
    rfl
  · rw [va_up_ne _ _ hq]
    exact ite_cg (fun h_bookx => ite_cg (fun hbook => rfl) (fun h_roughsx => ite_cg (fun hroughs => rfl) (fun h_pbx => ite_cg (fun hpb => rfl) (fun h_tenderx => ite_cg (fun htender => rfl) (fun h_gemsx => ite_cg (fun hgems => rfl) (fun harrC => by rw [up_ne (r := 14) (r2 := q) (by omega)])))))) (fun h_junk1y => ite_cg (fun hjunk1 => rfl) (fun h_roughy => ite_cg (fun hrough => rfl) (fun h_opRy => ite_cg (fun hopR => rfl) (fun h_gemy => ite_cg (fun hgem => rfl) (fun h_opGy => ite_cg (fun hopG => rfl) (fun hjunk3 => rfl))))))
theorem v_6 {D : Gt} {ad : Nat → Nat} {σ : Mm} {g : Nat → Int32} (q : Nat) : cO D ad (upR σ 6 g) q = va_up (cO D ad σ) 6 (.inl (D.2 0, 5, .inl g)) q := by
  by_cases hq : q = 6
  · subst hq
    rw [va_up_self]
    rfl
  · rw [va_up_ne _ _ hq]
    exact ite_cg (fun h_bookx => ite_cg (fun hbook => rfl) (fun h_roughsx => ite_cg (fun hroughs => rfl) (fun h_pbx => ite_cg (fun hpb => rfl) (fun h_tenderx => ite_cg (fun htender => rfl) (fun h_gemsx => ite_cg (fun hgems => rfl) (fun harrC => by rw [upR_ne (r := 6) (r2 := q) (by omega)])))))) (fun h_junk1y => ite_cg (fun hjunk1 => rfl) (fun h_roughy => ite_cg (fun hrough => rfl) (fun h_opRy => ite_cg (fun hopR => rfl) (fun h_gemy => ite_cg (fun hgem => rfl) (fun h_opGy => ite_cg (fun hopG => rfl) (fun hjunk3 => rfl))))))
theorem v_7 {D : Gt} {ad : Nat → Nat} {σ : Mm} {g : Nat → Int32} (q : Nat) : cO D ad (upR σ 7 g) q = va_up (cO D ad σ) 7 (.inl (D.2 0, 5, .inl g)) q := by
  by_cases hq : q = 7
  · subst hq
    rw [va_up_self]
    rfl
  · rw [va_up_ne _ _ hq]
    exact ite_cg (fun h_bookx => ite_cg (fun hbook => rfl) (fun h_roughsx => ite_cg (fun hroughs => rfl) (fun h_pbx => ite_cg (fun hpb => rfl) (fun h_tenderx => ite_cg (fun htender => rfl) (fun h_gemsx => ite_cg (fun hgems => rfl) (fun harrC => by rw [upR_ne (r := 7) (r2 := q) (by omega)])))))) (fun h_junk1y => ite_cg (fun hjunk1 => rfl) (fun h_roughy => ite_cg (fun hrough => rfl) (fun h_opRy => ite_cg (fun hopR => rfl) (fun h_gemy => ite_cg (fun hgem => rfl) (fun h_opGy => ite_cg (fun hopG => rfl) (fun hjunk3 => rfl))))))
theorem v_8 {D : Gt} {ad : Nat → Nat} {σ : Mm} {g : Nat → Int32} (q : Nat) : cO D ad (upR σ 8 g) q = va_up (cO D ad σ) 8 (.inl (D.2 0, 5, .inl g)) q := by
  by_cases hq : q = 8
  · subst hq
    rw [va_up_self]
    rfl
  · rw [va_up_ne _ _ hq]
    exact ite_cg (fun h_bookx => ite_cg (fun hbook => rfl) (fun h_roughsx => ite_cg (fun hroughs => rfl) (fun h_pbx => ite_cg (fun hpb => rfl) (fun h_tenderx => ite_cg (fun htender => rfl) (fun h_gemsx => ite_cg (fun hgems => rfl) (fun harrC => by rw [upR_ne (r := 8) (r2 := q) (by omega)])))))) (fun h_junk1y => ite_cg (fun hjunk1 => rfl) (fun h_roughy => ite_cg (fun hrough => rfl) (fun h_opRy => ite_cg (fun hopR => rfl) (fun h_gemy => ite_cg (fun hgem => rfl) (fun h_opGy => ite_cg (fun hopG => rfl) (fun hjunk3 => rfl))))))
theorem v_10 {D : Gt} {ad : Nat → Nat} {σ : Mm} {g : Nat → Int32} (q : Nat) : cO D ad (upR σ 10 g) q = va_up (cO D ad σ) 10 (.inl (D.2 0, 5, .inl g)) q := by
  by_cases hq : q = 10
  · subst hq
    rw [va_up_self]
    rfl
  · rw [va_up_ne _ _ hq]
    exact ite_cg (fun h_bookx => ite_cg (fun hbook => rfl) (fun h_roughsx => ite_cg (fun hroughs => rfl) (fun h_pbx => ite_cg (fun hpb => rfl) (fun h_tenderx => ite_cg (fun htender => rfl) (fun h_gemsx => ite_cg (fun hgems => rfl) (fun harrC => by rw [upR_ne (r := 10) (r2 := q) (by omega)])))))) (fun h_junk1y => ite_cg (fun hjunk1 => rfl) (fun h_roughy => ite_cg (fun hrough => rfl) (fun h_opRy => ite_cg (fun hopR => rfl) (fun h_gemy => ite_cg (fun hgem => rfl) (fun h_opGy => ite_cg (fun hopG => rfl) (fun hjunk3 => rfl))))))
theorem u_0_1 {D : Gt} {ad : Nat → Nat} {σ : Mm} {x : Int32} (q : Nat) : cO D ad (up σ 0 1 x) q = va_up (cO D ad σ) 0 (.inr (5, [.ref (ad 1), .int x, .ref (ad 2), .int (σ 0 3), .ref (ad 3), .ref (ad 4), .ref (ad 6), .ref (ad 7), .ref (ad 8), .int (σ 0 9), .ref (ad 9), .ref (ad 11), .int (σ 0 12), .int (σ 0 13), .ref (ad 12), .ref (ad 13), .ref (ad 14)])) q := by
  by_cases hq : q = 0
  · subst hq
    rw [va_up_self]
    rfl
  · rw [va_up_ne _ _ hq]
    exact ite_cg (fun h_bookx => ite_cg (fun hbook => absurd hbook hq) (fun h_roughsx => ite_cg (fun hroughs => rfl) (fun h_pbx => ite_cg (fun hpb => rfl) (fun h_tenderx => ite_cg (fun htender => rfl) (fun h_gemsx => ite_cg (fun hgems => rfl) (fun harrC => by rw [up_ne (r := 0) (r2 := q) (by omega)])))))) (fun h_junk1y => ite_cg (fun hjunk1 => rfl) (fun h_roughy => ite_cg (fun hrough => rfl) (fun h_opRy => ite_cg (fun hopR => rfl) (fun h_gemy => ite_cg (fun hgem => rfl) (fun h_opGy => ite_cg (fun hopG => rfl) (fun hjunk3 => rfl))))))
theorem u_0_3 {D : Gt} {ad : Nat → Nat} {σ : Mm} {x : Int32} (q : Nat) : cO D ad (up σ 0 3 x) q = va_up (cO D ad σ) 0 (.inr (5, [.ref (ad 1), .int (σ 0 1), .ref (ad 2), .int x, .ref (ad 3), .ref (ad 4), .ref (ad 6), .ref (ad 7), .ref (ad 8), .int (σ 0 9), .ref (ad 9), .ref (ad 11), .int (σ 0 12), .int (σ 0 13), .ref (ad 12), .ref (ad 13), .ref (ad 14)])) q := by
  by_cases hq : q = 0
  · subst hq
    rw [va_up_self]
    rfl
  · rw [va_up_ne _ _ hq]
    exact ite_cg (fun h_bookx => ite_cg (fun hbook => absurd hbook hq) (fun h_roughsx => ite_cg (fun hroughs => rfl) (fun h_pbx => ite_cg (fun hpb => rfl) (fun h_tenderx => ite_cg (fun htender => rfl) (fun h_gemsx => ite_cg (fun hgems => rfl) (fun harrC => by rw [up_ne (r := 0) (r2 := q) (by omega)])))))) (fun h_junk1y => ite_cg (fun hjunk1 => rfl) (fun h_roughy => ite_cg (fun hrough => rfl) (fun h_opRy => ite_cg (fun hopR => rfl) (fun h_gemy => ite_cg (fun hgem => rfl) (fun h_opGy => ite_cg (fun hopG => rfl) (fun hjunk3 => rfl))))))
theorem u_0_9 {D : Gt} {ad : Nat → Nat} {σ : Mm} {x : Int32} (q : Nat) : cO D ad (up σ 0 9 x) q = va_up (cO D ad σ) 0 (.inr (5, [.ref (ad 1), .int (σ 0 1), .ref (ad 2), .int (σ 0 3), .ref (ad 3), .ref (ad 4), .ref (ad 6), .ref (ad 7), .ref (ad 8), .int x, .ref (ad 9), .ref (ad 11), .int (σ 0 12), .int (σ 0 13), .ref (ad 12), .ref (ad 13), .ref (ad 14)])) q := by
  by_cases hq : q = 0
  · subst hq
    rw [va_up_self]
    rfl
  · rw [va_up_ne _ _ hq]
    exact ite_cg (fun h_bookx => ite_cg (fun hbook => absurd hbook hq) (fun h_roughsx => ite_cg (fun hroughs => rfl) (fun h_pbx => ite_cg (fun hpb => rfl) (fun h_tenderx => ite_cg (fun htender => rfl) (fun h_gemsx => ite_cg (fun hgems => rfl) (fun harrC => by rw [up_ne (r := 0) (r2 := q) (by omega)])))))) (fun h_junk1y => ite_cg (fun hjunk1 => rfl) (fun h_roughy => ite_cg (fun hrough => rfl) (fun h_opRy => ite_cg (fun hopR => rfl) (fun h_gemy => ite_cg (fun hgem => rfl) (fun h_opGy => ite_cg (fun hopG => rfl) (fun hjunk3 => rfl))))))
theorem u_0_12 {D : Gt} {ad : Nat → Nat} {σ : Mm} {x : Int32} (q : Nat) : cO D ad (up σ 0 12 x) q = va_up (cO D ad σ) 0 (.inr (5, [.ref (ad 1), .int (σ 0 1), .ref (ad 2), .int (σ 0 3), .ref (ad 3), .ref (ad 4), .ref (ad 6), .ref (ad 7), .ref (ad 8), .int (σ 0 9), .ref (ad 9), .ref (ad 11), .int x, .int (σ 0 13), .ref (ad 12), .ref (ad 13), .ref (ad 14)])) q := by
  by_cases hq : q = 0
  · subst hq
    rw [va_up_self]
    rfl
  · rw [va_up_ne _ _ hq]
    exact ite_cg (fun h_bookx => ite_cg (fun hbook => absurd hbook hq) (fun h_roughsx => ite_cg (fun hroughs => rfl) (fun h_pbx => ite_cg (fun hpb => rfl) (fun h_tenderx => ite_cg (fun htender => rfl) (fun h_gemsx => ite_cg (fun hgems => rfl) (fun harrC => by rw [up_ne (r := 0) (r2 := q) (by omega)])))))) (fun h_junk1y => ite_cg (fun hjunk1 => rfl) (fun h_roughy => ite_cg (fun hrough => rfl) (fun h_opRy => ite_cg (fun hopR => rfl) (fun h_gemy => ite_cg (fun hgem => rfl) (fun h_opGy => ite_cg (fun hopG => rfl) (fun hjunk3 => rfl))))))
theorem u_0_13 {D : Gt} {ad : Nat → Nat} {σ : Mm} {x : Int32} (q : Nat) : cO D ad (up σ 0 13 x) q = va_up (cO D ad σ) 0 (.inr (5, [.ref (ad 1), .int (σ 0 1), .ref (ad 2), .int (σ 0 3), .ref (ad 3), .ref (ad 4), .ref (ad 6), .ref (ad 7), .ref (ad 8), .int (σ 0 9), .ref (ad 9), .ref (ad 11), .int (σ 0 12), .int x, .ref (ad 12), .ref (ad 13), .ref (ad 14)])) q := by
  by_cases hq : q = 0
  · subst hq
    rw [va_up_self]
    rfl
  · rw [va_up_ne _ _ hq]
    exact ite_cg (fun h_bookx => ite_cg (fun hbook => absurd hbook hq) (fun h_roughsx => ite_cg (fun hroughs => rfl) (fun h_pbx => ite_cg (fun hpb => rfl) (fun h_tenderx => ite_cg (fun htender => rfl) (fun h_gemsx => ite_cg (fun hgems => rfl) (fun harrC => by rw [up_ne (r := 0) (r2 := q) (by omega)])))))) (fun h_junk1y => ite_cg (fun hjunk1 => rfl) (fun h_roughy => ite_cg (fun hrough => rfl) (fun h_opRy => ite_cg (fun hopR => rfl) (fun h_gemy => ite_cg (fun hgem => rfl) (fun h_opGy => ite_cg (fun hopG => rfl) (fun hjunk3 => rfl))))))
theorem u_9_1 {D : Gt} {ad : Nat → Nat} {σ : Mm} {x : Int32} (q : Nat) : cO D ad (up σ 9 1 x) q = va_up (cO D ad σ) 9 (.inr (4, [va_rf (tdr ad (σ 9 0)), .int x, .ref (ad 10)])) q := by
  by_cases hq : q = 9
  · subst hq
    rw [va_up_self]
    rfl
  · rw [va_up_ne _ _ hq]
    exact ite_cg (fun h_bookx => ite_cg (fun hbook => rfl) (fun h_roughsx => ite_cg (fun hroughs => rfl) (fun h_pbx => ite_cg (fun hpb => rfl) (fun h_tenderx => ite_cg (fun htender => absurd htender hq) (fun h_gemsx => ite_cg (fun hgems => rfl) (fun harrC => by rw [up_ne (r := 9) (r2 := q) (by omega)])))))) (fun h_junk1y => ite_cg (fun hjunk1 => rfl) (fun h_roughy => ite_cg (fun hrough => rfl) (fun h_opRy => ite_cg (fun hopR => rfl) (fun h_gemy => ite_cg (fun hgem => rfl) (fun h_opGy => ite_cg (fun hopG => rfl) (fun hjunk3 => rfl))))))
theorem u_9_0 {D : Gt} {ad : Nat → Nat} {σ : Mm} {x : Int32} (q : Nat) : cO D ad (up σ 9 0 x) q = va_up (cO D ad σ) 9 (.inr (4, [va_rf (tdr ad x), .int (σ 9 1), .ref (ad 10)])) q := by
  by_cases hq : q = 9
  · subst hq
    rw [va_up_self]
    rfl
  · rw [va_up_ne _ _ hq]
    exact ite_cg (fun h_bookx => ite_cg (fun hbook => rfl) (fun h_roughsx => ite_cg (fun hroughs => rfl) (fun h_pbx => ite_cg (fun hpb => rfl) (fun h_tenderx => ite_cg (fun htender => absurd htender hq) (fun h_gemsx => ite_cg (fun hgems => rfl) (fun harrC => by rw [up_ne (r := 9) (r2 := q) (by omega)])))))) (fun h_junk1y => ite_cg (fun hjunk1 => rfl) (fun h_roughy => ite_cg (fun hrough => rfl) (fun h_opRy => ite_cg (fun hopR => rfl) (fun h_gemy => ite_cg (fun hgem => rfl) (fun h_opGy => ite_cg (fun hopG => rfl) (fun hjunk3 => rfl))))))
theorem u_r_0 {D : Gt} {ad : Nat → Nat} {σ : Mm} {i : Nat} {x : Int32} (hi : i < 50) (q : Nat) : cO D ad (up σ 20 i x) q = va_up (cO D ad σ) (100 + i) (.inr (3, [.int x, .int (σ 21 i), .int (σ 22 i), .int (σ 23 i), .int (σ 24 i), .int (σ 25 i), .int (σ 26 i), .ref (ad (150 + i)), .int (σ 28 i), .int (σ 29 i), .int (σ 30 i), .int (σ 31 i)])) q := by
  by_cases hq : q = (100 + i)
  · subst hq
    rw [va_up_self]
    rw [cO_r hi]
    unfold oRough
    rw [up_self]
    rfl
  · rw [va_up_ne _ _ hq]
    exact ite_cg (fun h_bookx => ite_cg (fun hbook => rfl) (fun h_roughsx => ite_cg (fun hroughs => rfl) (fun h_pbx => ite_cg (fun hpb => rfl) (fun h_tenderx => ite_cg (fun htender => rfl) (fun h_gemsx => ite_cg (fun hgems => rfl) (fun harrC => by rw [up_ne (r := 20) (r2 := q) (by omega)])))))) (fun h_junk1y => ite_cg (fun hjunk1 => rfl) (fun h_roughy => ite_cg (fun hrough => by
      unfold oRough
      simp only [up_nj (show q - 100 ≠ i by omega)]) (fun h_opRy => ite_cg (fun hopR => rfl) (fun h_gemy => ite_cg (fun hgem => rfl) (fun h_opGy => ite_cg (fun hopG => rfl) (fun hjunk3 => rfl))))))
theorem u_r_1 {D : Gt} {ad : Nat → Nat} {σ : Mm} {i : Nat} {x : Int32} (hi : i < 50) (q : Nat) : cO D ad (up σ 21 i x) q = va_up (cO D ad σ) (100 + i) (.inr (3, [.int (σ 20 i), .int x, .int (σ 22 i), .int (σ 23 i), .int (σ 24 i), .int (σ 25 i), .int (σ 26 i), .ref (ad (150 + i)), .int (σ 28 i), .int (σ 29 i), .int (σ 30 i), .int (σ 31 i)])) q := by
  by_cases hq : q = (100 + i)
  · subst hq
    rw [va_up_self]
    rw [cO_r hi]
    unfold oRough
    rw [up_self]
    rfl
  · rw [va_up_ne _ _ hq]
    exact ite_cg (fun h_bookx => ite_cg (fun hbook => rfl) (fun h_roughsx => ite_cg (fun hroughs => rfl) (fun h_pbx => ite_cg (fun hpb => rfl) (fun h_tenderx => ite_cg (fun htender => rfl) (fun h_gemsx => ite_cg (fun hgems => rfl) (fun harrC => by rw [up_ne (r := 21) (r2 := q) (by omega)])))))) (fun h_junk1y => ite_cg (fun hjunk1 => rfl) (fun h_roughy => ite_cg (fun hrough => by
      unfold oRough
      simp only [up_nj (show q - 100 ≠ i by omega)]) (fun h_opRy => ite_cg (fun hopR => rfl) (fun h_gemy => ite_cg (fun hgem => rfl) (fun h_opGy => ite_cg (fun hopG => rfl) (fun hjunk3 => rfl))))))
theorem u_r_2 {D : Gt} {ad : Nat → Nat} {σ : Mm} {i : Nat} {x : Int32} (hi : i < 50) (q : Nat) : cO D ad (up σ 22 i x) q = va_up (cO D ad σ) (100 + i) (.inr (3, [.int (σ 20 i), .int (σ 21 i), .int x, .int (σ 23 i), .int (σ 24 i), .int (σ 25 i), .int (σ 26 i), .ref (ad (150 + i)), .int (σ 28 i), .int (σ 29 i), .int (σ 30 i), .int (σ 31 i)])) q := by
  by_cases hq : q = (100 + i)
  · subst hq
    rw [va_up_self]
    rw [cO_r hi]
    unfold oRough
    rw [up_self]
    rfl
  · rw [va_up_ne _ _ hq]
    exact ite_cg (fun h_bookx => ite_cg (fun hbook => rfl) (fun h_roughsx => ite_cg (fun hroughs => rfl) (fun h_pbx => ite_cg (fun hpb => rfl) (fun h_tenderx => ite_cg (fun htender => rfl) (fun h_gemsx => ite_cg (fun hgems => rfl) (fun harrC => by rw [up_ne (r := 22) (r2 := q) (by omega)])))))) (fun h_junk1y => ite_cg (fun hjunk1 => rfl) (fun h_roughy => ite_cg (fun hrough => by
      unfold oRough
      simp only [up_nj (show q - 100 ≠ i by omega)]) (fun h_opRy => ite_cg (fun hopR => rfl) (fun h_gemy => ite_cg (fun hgem => rfl) (fun h_opGy => ite_cg (fun hopG => rfl) (fun hjunk3 => rfl))))))
theorem u_r_3 {D : Gt} {ad : Nat → Nat} {σ : Mm} {i : Nat} {x : Int32} (hi : i < 50) (q : Nat) : cO D ad (up σ 23 i x) q = va_up (cO D ad σ) (100 + i) (.inr (3, [.int (σ 20 i), .int (σ 21 i), .int (σ 22 i), .int x, .int (σ 24 i), .int (σ 25 i), .int (σ 26 i), .ref (ad (150 + i)), .int (σ 28 i), .int (σ 29 i), .int (σ 30 i), .int (σ 31 i)])) q := by
  by_cases hq : q = (100 + i)
  · subst hq
    rw [va_up_self]
    rw [cO_r hi]
    unfold oRough
    rw [up_self]
    rfl
  · rw [va_up_ne _ _ hq]
    exact ite_cg (fun h_bookx => ite_cg (fun hbook => rfl) (fun h_roughsx => ite_cg (fun hroughs => rfl) (fun h_pbx => ite_cg (fun hpb => rfl) (fun h_tenderx => ite_cg (fun htender => rfl) (fun h_gemsx => ite_cg (fun hgems => rfl) (fun harrC => by rw [up_ne (r := 23) (r2 := q) (by omega)])))))) (fun h_junk1y => ite_cg (fun hjunk1 => rfl) (fun h_roughy => ite_cg (fun hrough => by
      unfold oRough
      simp only [up_nj (show q - 100 ≠ i by omega)]) (fun h_opRy => ite_cg (fun hopR => rfl) (fun h_gemy => ite_cg (fun hgem => rfl) (fun h_opGy => ite_cg (fun hopG => rfl) (fun hjunk3 => rfl))))))
theorem u_r_4 {D : Gt} {ad : Nat → Nat} {σ : Mm} {i : Nat} {x : Int32} (hi : i < 50) (q : Nat) : cO D ad (up σ 24 i x) q = va_up (cO D ad σ) (100 + i) (.inr (3, [.int (σ 20 i), .int (σ 21 i), .int (σ 22 i), .int (σ 23 i), .int x, .int (σ 25 i), .int (σ 26 i), .ref (ad (150 + i)), .int (σ 28 i), .int (σ 29 i), .int (σ 30 i), .int (σ 31 i)])) q := by
  by_cases hq : q = (100 + i)
  · subst hq
    rw [va_up_self]
    rw [cO_r hi]
    unfold oRough
    rw [up_self]
    rfl
  · rw [va_up_ne _ _ hq]
    exact ite_cg (fun h_bookx => ite_cg (fun hbook => rfl) (fun h_roughsx => ite_cg (fun hroughs => rfl) (fun h_pbx => ite_cg (fun hpb => rfl) (fun h_tenderx => ite_cg (fun htender => rfl) (fun h_gemsx => ite_cg (fun hgems => rfl) (fun harrC => by rw [up_ne (r := 24) (r2 := q) (by omega)])))))) (fun h_junk1y => ite_cg (fun hjunk1 => rfl) (fun h_roughy => ite_cg (fun hrough => by
      unfold oRough
      simp only [up_nj (show q - 100 ≠ i by omega)]) (fun h_opRy => ite_cg (fun hopR => rfl) (fun h_gemy => ite_cg (fun hgem => rfl) (fun h_opGy => ite_cg (fun hopG => rfl) (fun hjunk3 => rfl))))))
theorem u_r_5 {D : Gt} {ad : Nat → Nat} {σ : Mm} {i : Nat} {x : Int32} (hi : i < 50) (q : Nat) : cO D ad (up σ 25 i x) q = va_up (cO D ad σ) (100 + i) (.inr (3, [.int (σ 20 i), .int (σ 21 i), .int (σ 22 i), .int (σ 23 i), .int (σ 24 i), .int x, .int (σ 26 i), .ref (ad (150 + i)), .int (σ 28 i), .int (σ 29 i), .int (σ 30 i), .int (σ 31 i)])) q := by
  by_cases hq : q = (100 + i)
  · subst hq
    rw [va_up_self]
    rw [cO_r hi]
    unfold oRough
    rw [up_self]
    rfl
  · rw [va_up_ne _ _ hq]
    exact ite_cg (fun h_bookx => ite_cg (fun hbook => rfl) (fun h_roughsx => ite_cg (fun hroughs => rfl) (fun h_pbx => ite_cg (fun hpb => rfl) (fun h_tenderx => ite_cg (fun htender => rfl) (fun h_gemsx => ite_cg (fun hgems => rfl) (fun harrC => by rw [up_ne (r := 25) (r2 := q) (by omega)])))))) (fun h_junk1y => ite_cg (fun hjunk1 => rfl) (fun h_roughy => ite_cg (fun hrough => by
      unfold oRough
      simp only [up_nj (show q - 100 ≠ i by omega)]) (fun h_opRy => ite_cg (fun hopR => rfl) (fun h_gemy => ite_cg (fun hgem => rfl) (fun h_opGy => ite_cg (fun hopG => rfl) (fun hjunk3 => rfl))))))
theorem u_r_6 {D : Gt} {ad : Nat → Nat} {σ : Mm} {i : Nat} {x : Int32} (hi : i < 50) (q : Nat) : cO D ad (up σ 26 i x) q = va_up (cO D ad σ) (100 + i) (.inr (3, [.int (σ 20 i), .int (σ 21 i), .int (σ 22 i), .int (σ 23 i), .int (σ 24 i), .int (σ 25 i), .int x, .ref (ad (150 + i)), .int (σ 28 i), .int (σ 29 i), .int (σ 30 i), .int (σ 31 i)])) q := by
  by_cases hq : q = (100 + i)
  · subst hq
    rw [va_up_self]
    rw [cO_r hi]
    unfold oRough
    rw [up_self]
    rfl
  · rw [va_up_ne _ _ hq]
    exact ite_cg (fun h_bookx => ite_cg (fun hbook => rfl) (fun h_roughsx => ite_cg (fun hroughs => rfl) (fun h_pbx => ite_cg (fun hpb => rfl) (fun h_tenderx => ite_cg (fun htender => rfl) (fun h_gemsx => ite_cg (fun hgems => rfl) (fun harrC => by rw [up_ne (r := 26) (r2 := q) (by omega)])))))) (fun h_junk1y => ite_cg (fun hjunk1 => rfl) (fun h_roughy => ite_cg (fun hrough => by
      unfold oRough
      simp only [up_nj (show q - 100 ≠ i by omega)]) (fun h_opRy => ite_cg (fun hopR => rfl) (fun h_gemy => ite_cg (fun hgem => rfl) (fun h_opGy => ite_cg (fun hopG => rfl) (fun hjunk3 => rfl))))))
theorem u_r_8 {D : Gt} {ad : Nat → Nat} {σ : Mm} {i : Nat} {x : Int32} (hi : i < 50) (q : Nat) : cO D ad (up σ 28 i x) q = va_up (cO D ad σ) (100 + i) (.inr (3, [.int (σ 20 i), .int (σ 21 i), .int (σ 22 i), .int (σ 23 i), .int (σ 24 i), .int (σ 25 i), .int (σ 26 i), .ref (ad (150 + i)), .int x, .int (σ 29 i), .int (σ 30 i), .int (σ 31 i)])) q := by
  by_cases hq : q = (100 + i)
  · subst hq
    rw [va_up_self]
    rw [cO_r hi]
    unfold oRough
    rw [up_self]
    rfl
  · rw [va_up_ne _ _ hq]
    exact ite_cg (fun h_bookx => ite_cg (fun hbook => rfl) (fun h_roughsx => ite_cg (fun hroughs => rfl) (fun h_pbx => ite_cg (fun hpb => rfl) (fun h_tenderx => ite_cg (fun htender => rfl) (fun h_gemsx => ite_cg (fun hgems => rfl) (fun harrC => by rw [up_ne (r := 28) (r2 := q) (by omega)])))))) (fun h_junk1y => ite_cg (fun hjunk1 => rfl) (fun h_roughy => ite_cg (fun hrough => by
      unfold oRough
      simp only [up_nj (show q - 100 ≠ i by omega)]) (fun h_opRy => ite_cg (fun hopR => rfl) (fun h_gemy => ite_cg (fun hgem => rfl) (fun h_opGy => ite_cg (fun hopG => rfl) (fun hjunk3 => rfl))))))
theorem u_r_9 {D : Gt} {ad : Nat → Nat} {σ : Mm} {i : Nat} {x : Int32} (hi : i < 50) (q : Nat) : cO D ad (up σ 29 i x) q = va_up (cO D ad σ) (100 + i) (.inr (3, [.int (σ 20 i), .int (σ 21 i), .int (σ 22 i), .int (σ 23 i), .int (σ 24 i), .int (σ 25 i), .int (σ 26 i), .ref (ad (150 + i)), .int (σ 28 i), .int x, .int (σ 30 i), .int (σ 31 i)])) q := by
  by_cases hq : q = (100 + i)
  · subst hq
    rw [va_up_self]
    rw [cO_r hi]
    unfold oRough
    rw [up_self]
    rfl
  · rw [va_up_ne _ _ hq]
    exact ite_cg (fun h_bookx => ite_cg (fun hbook => rfl) (fun h_roughsx => ite_cg (fun hroughs => rfl) (fun h_pbx => ite_cg (fun hpb => rfl) (fun h_tenderx => ite_cg (fun htender => rfl) (fun h_gemsx => ite_cg (fun hgems => rfl) (fun harrC => by rw [up_ne (r := 29) (r2 := q) (by omega)])))))) (fun h_junk1y => ite_cg (fun hjunk1 => rfl) (fun h_roughy => ite_cg (fun hrough => by
      unfold oRough
      simp only [up_nj (show q - 100 ≠ i by omega)]) (fun h_opRy => ite_cg (fun hopR => rfl) (fun h_gemy => ite_cg (fun hgem => rfl) (fun h_opGy => ite_cg (fun hopG => rfl) (fun hjunk3 => rfl))))))
theorem u_r_10 {D : Gt} {ad : Nat → Nat} {σ : Mm} {i : Nat} {x : Int32} (hi : i < 50) (q : Nat) : cO D ad (up σ 30 i x) q = va_up (cO D ad σ) (100 + i) (.inr (3, [.int (σ 20 i), .int (σ 21 i), .int (σ 22 i), .int (σ 23 i), .int (σ 24 i), .int (σ 25 i), .int (σ 26 i), .ref (ad (150 + i)), .int (σ 28 i), .int (σ 29 i), .int x, .int (σ 31 i)])) q := by
  by_cases hq : q = (100 + i)
  · subst hq
    rw [va_up_self]
    rw [cO_r hi]
    unfold oRough
    rw [up_self]
    rfl
  · rw [va_up_ne _ _ hq]
    exact ite_cg (fun h_bookx => ite_cg (fun hbook => rfl) (fun h_roughsx => ite_cg (fun hroughs => rfl) (fun h_pbx => ite_cg (fun hpb => rfl) (fun h_tenderx => ite_cg (fun htender => rfl) (fun h_gemsx => ite_cg (fun hgems => rfl) (fun harrC => by rw [up_ne (r := 30) (r2 := q) (by omega)])))))) (fun h_junk1y => ite_cg (fun hjunk1 => rfl) (fun h_roughy => ite_cg (fun hrough => by
      unfold oRough
      simp only [up_nj (show q - 100 ≠ i by omega)]) (fun h_opRy => ite_cg (fun hopR => rfl) (fun h_gemy => ite_cg (fun hgem => rfl) (fun h_opGy => ite_cg (fun hopG => rfl) (fun hjunk3 => rfl))))))
theorem u_r_11 {D : Gt} {ad : Nat → Nat} {σ : Mm} {i : Nat} {x : Int32} (hi : i < 50) (q : Nat) : cO D ad (up σ 31 i x) q = va_up (cO D ad σ) (100 + i) (.inr (3, [.int (σ 20 i), .int (σ 21 i), .int (σ 22 i), .int (σ 23 i), .int (σ 24 i), .int (σ 25 i), .int (σ 26 i), .ref (ad (150 + i)), .int (σ 28 i), .int (σ 29 i), .int (σ 30 i), .int x])) q := by
  by_cases hq : q = (100 + i)
  · subst hq
    rw [va_up_self]
    rw [cO_r hi]
    unfold oRough
    rw [up_self]
    rfl
  · rw [va_up_ne _ _ hq]
    exact ite_cg (fun h_bookx => ite_cg (fun hbook => rfl) (fun h_roughsx => ite_cg (fun hroughs => rfl) (fun h_pbx => ite_cg (fun hpb => rfl) (fun h_tenderx => ite_cg (fun htender => rfl) (fun h_gemsx => ite_cg (fun hgems => rfl) (fun harrC => by rw [up_ne (r := 31) (r2 := q) (by omega)])))))) (fun h_junk1y => ite_cg (fun hjunk1 => rfl) (fun h_roughy => ite_cg (fun hrough => by
      unfold oRough
      simp only [up_nj (show q - 100 ≠ i by omega)]) (fun h_opRy => ite_cg (fun hopR => rfl) (fun h_gemy => ite_cg (fun hgem => rfl) (fun h_opGy => ite_cg (fun hopG => rfl) (fun hjunk3 => rfl))))))
theorem u_s_0 {D : Gt} {ad : Nat → Nat} {σ : Mm} {i : Nat} {x : Int32} (hi : i < 50) (q : Nat) : cO D ad (up σ 32 i x) q = va_up (cO D ad σ) (150 + i) (.inr (1, [.int x, .int (σ 33 i), .int (σ 34 i), .int (σ 35 i), .int (σ 36 i)])) q := by
  by_cases hq : q = (150 + i)
  · subst hq
    rw [va_up_self]
    rw [cO_s hi]
    unfold oOpn
    rw [up_self]
    rfl
  · rw [va_up_ne _ _ hq]
    exact ite_cg (fun h_bookx => ite_cg (fun hbook => rfl) (fun h_roughsx => ite_cg (fun hroughs => rfl) (fun h_pbx => ite_cg (fun hpb => rfl) (fun h_tenderx => ite_cg (fun htender => rfl) (fun h_gemsx => ite_cg (fun hgems => rfl) (fun harrC => by rw [up_ne (r := 32) (r2 := q) (by omega)])))))) (fun h_junk1y => ite_cg (fun hjunk1 => rfl) (fun h_roughy => ite_cg (fun hrough => rfl) (fun h_opRy => ite_cg (fun hopR => by
      unfold oOpn
      simp only [up_nj (show q - 150 ≠ i by omega)]) (fun h_gemy => ite_cg (fun hgem => rfl) (fun h_opGy => ite_cg (fun hopG => rfl) (fun hjunk3 => rfl))))))
theorem u_s_1 {D : Gt} {ad : Nat → Nat} {σ : Mm} {i : Nat} {x : Int32} (hi : i < 50) (q : Nat) : cO D ad (up σ 33 i x) q = va_up (cO D ad σ) (150 + i) (.inr (1, [.int (σ 32 i), .int x, .int (σ 34 i), .int (σ 35 i), .int (σ 36 i)])) q := by
  by_cases hq : q = (150 + i)
  · subst hq
    rw [va_up_self]
    rw [cO_s hi]
    unfold oOpn
    rw [up_self]
    rfl
  · rw [va_up_ne _ _ hq]
    exact ite_cg (fun h_bookx => ite_cg (fun hbook => rfl) (fun h_roughsx => ite_cg (fun hroughs => rfl) (fun h_pbx => ite_cg (fun hpb => rfl) (fun h_tenderx => ite_cg (fun htender => rfl) (fun h_gemsx => ite_cg (fun hgems => rfl) (fun harrC => by rw [up_ne (r := 33) (r2 := q) (by omega)])))))) (fun h_junk1y => ite_cg (fun hjunk1 => rfl) (fun h_roughy => ite_cg (fun hrough => rfl) (fun h_opRy => ite_cg (fun hopR => by
      unfold oOpn
      simp only [up_nj (show q - 150 ≠ i by omega)]) (fun h_gemy => ite_cg (fun hgem => rfl) (fun h_opGy => ite_cg (fun hopG => rfl) (fun hjunk3 => rfl))))))
theorem u_s_2 {D : Gt} {ad : Nat → Nat} {σ : Mm} {i : Nat} {x : Int32} (hi : i < 50) (q : Nat) : cO D ad (up σ 34 i x) q = va_up (cO D ad σ) (150 + i) (.inr (1, [.int (σ 32 i), .int (σ 33 i), .int x, .int (σ 35 i), .int (σ 36 i)])) q := by
  by_cases hq : q = (150 + i)
  · subst hq
    rw [va_up_self]
    rw [cO_s hi]
    unfold oOpn
    rw [up_self]
    rfl
  · rw [va_up_ne _ _ hq]
    exact ite_cg (fun h_bookx => ite_cg (fun hbook => rfl) (fun h_roughsx => ite_cg (fun hroughs => rfl) (fun h_pbx => ite_cg (fun hpb => rfl) (fun h_tenderx => ite_cg (fun htender => rfl) (fun h_gemsx => ite_cg (fun hgems => rfl) (fun harrC => by rw [up_ne (r := 34) (r2 := q) (by omega)])))))) (fun h_junk1y => ite_cg (fun hjunk1 => rfl) (fun h_roughy => ite_cg (fun hrough => rfl) (fun h_opRy => ite_cg (fun hopR => by
      unfold oOpn
      simp only [up_nj (show q - 150 ≠ i by omega)]) (fun h_gemy => ite_cg (fun hgem => rfl) (fun h_opGy => ite_cg (fun hopG => rfl) (fun hjunk3 => rfl))))))
theorem u_s_3 {D : Gt} {ad : Nat → Nat} {σ : Mm} {i : Nat} {x : Int32} (hi : i < 50) (q : Nat) : cO D ad (up σ 35 i x) q = va_up (cO D ad σ) (150 + i) (.inr (1, [.int (σ 32 i), .int (σ 33 i), .int (σ 34 i), .int x, .int (σ 36 i)])) q := by
  by_cases hq : q = (150 + i)
  · subst hq
    rw [va_up_self]
    rw [cO_s hi]
    unfold oOpn
    rw [up_self]
    rfl
  · rw [va_up_ne _ _ hq]
    exact ite_cg (fun h_bookx => ite_cg (fun hbook => rfl) (fun h_roughsx => ite_cg (fun hroughs => rfl) (fun h_pbx => ite_cg (fun hpb => rfl) (fun h_tenderx => ite_cg (fun htender => rfl) (fun h_gemsx => ite_cg (fun hgems => rfl) (fun harrC => by rw [up_ne (r := 35) (r2 := q) (by omega)])))))) (fun h_junk1y => ite_cg (fun hjunk1 => rfl) (fun h_roughy => ite_cg (fun hrough => rfl) (fun h_opRy => ite_cg (fun hopR => by
      unfold oOpn
      simp only [up_nj (show q - 150 ≠ i by omega)]) (fun h_gemy => ite_cg (fun hgem => rfl) (fun h_opGy => ite_cg (fun hopG => rfl) (fun hjunk3 => rfl))))))
theorem u_s_4 {D : Gt} {ad : Nat → Nat} {σ : Mm} {i : Nat} {x : Int32} (hi : i < 50) (q : Nat) : cO D ad (up σ 36 i x) q = va_up (cO D ad σ) (150 + i) (.inr (1, [.int (σ 32 i), .int (σ 33 i), .int (σ 34 i), .int (σ 35 i), .int x])) q := by
  by_cases hq : q = (150 + i)
  · subst hq
    rw [va_up_self]
    rw [cO_s hi]
    unfold oOpn
    rw [up_self]
    rfl
  · rw [va_up_ne _ _ hq]
    exact ite_cg (fun h_bookx => ite_cg (fun hbook => rfl) (fun h_roughsx => ite_cg (fun hroughs => rfl) (fun h_pbx => ite_cg (fun hpb => rfl) (fun h_tenderx => ite_cg (fun htender => rfl) (fun h_gemsx => ite_cg (fun hgems => rfl) (fun harrC => by rw [up_ne (r := 36) (r2 := q) (by omega)])))))) (fun h_junk1y => ite_cg (fun hjunk1 => rfl) (fun h_roughy => ite_cg (fun hrough => rfl) (fun h_opRy => ite_cg (fun hopR => by
      unfold oOpn
      simp only [up_nj (show q - 150 ≠ i by omega)]) (fun h_gemy => ite_cg (fun hgem => rfl) (fun h_opGy => ite_cg (fun hopG => rfl) (fun hjunk3 => rfl))))))
theorem u_l_0 {D : Gt} {ad : Nat → Nat} {σ : Mm} {i : Nat} {x : Int32} (hi : i < 90) (q : Nat) : cO D ad (up σ 50 i x) q = va_up (cO D ad σ) (300 + i) (.inr (1, [.int x, .int (σ 51 i), .int (σ 52 i), .int (σ 53 i), .int (σ 54 i)])) q := by
  by_cases hq : q = (300 + i)
  · subst hq
    rw [va_up_self]
    rw [cO_l hi]
    unfold oOpn
    rw [up_self]
    rfl
  · rw [va_up_ne _ _ hq]
    exact ite_cg (fun h_bookx => ite_cg (fun hbook => rfl) (fun h_roughsx => ite_cg (fun hroughs => rfl) (fun h_pbx => ite_cg (fun hpb => rfl) (fun h_tenderx => ite_cg (fun htender => rfl) (fun h_gemsx => ite_cg (fun hgems => rfl) (fun harrC => by rw [up_ne (r := 50) (r2 := q) (by omega)])))))) (fun h_junk1y => ite_cg (fun hjunk1 => rfl) (fun h_roughy => ite_cg (fun hrough => rfl) (fun h_opRy => ite_cg (fun hopR => rfl) (fun h_gemy => ite_cg (fun hgem => rfl) (fun h_opGy => ite_cg (fun hopG => by
      unfold oOpn
      simp only [up_nj (show q - 300 ≠ i by omega)]) (fun hjunk3 => rfl))))))
theorem u_l_1 {D : Gt} {ad : Nat → Nat} {σ : Mm} {i : Nat} {x : Int32} (hi : i < 90) (q : Nat) : cO D ad (up σ 51 i x) q = va_up (cO D ad σ) (300 + i) (.inr (1, [.int (σ 50 i), .int x, .int (σ 52 i), .int (σ 53 i), .int (σ 54 i)])) q := by
  by_cases hq : q = (300 + i)
  · subst hq
    rw [va_up_self]
    rw [cO_l hi]
    unfold oOpn
    rw [up_self]
    rfl
  · rw [va_up_ne _ _ hq]
    exact ite_cg (fun h_bookx => ite_cg (fun hbook => rfl) (fun h_roughsx => ite_cg (fun hroughs => rfl) (fun h_pbx => ite_cg (fun hpb => rfl) (fun h_tenderx => ite_cg (fun htender => rfl) (fun h_gemsx => ite_cg (fun hgems => rfl) (fun harrC => by rw [up_ne (r := 51) (r2 := q) (by omega)])))))) (fun h_junk1y => ite_cg (fun hjunk1 => rfl) (fun h_roughy => ite_cg (fun hrough => rfl) (fun h_opRy => ite_cg (fun hopR => rfl) (fun h_gemy => ite_cg (fun hgem => rfl) (fun h_opGy => ite_cg (fun hopG => by
      unfold oOpn
      simp only [up_nj (show q - 300 ≠ i by omega)]) (fun hjunk3 => rfl))))))
theorem u_l_2 {D : Gt} {ad : Nat → Nat} {σ : Mm} {i : Nat} {x : Int32} (hi : i < 90) (q : Nat) : cO D ad (up σ 52 i x) q = va_up (cO D ad σ) (300 + i) (.inr (1, [.int (σ 50 i), .int (σ 51 i), .int x, .int (σ 53 i), .int (σ 54 i)])) q := by
  by_cases hq : q = (300 + i)
  · subst hq
    rw [va_up_self]
    rw [cO_l hi]
    unfold oOpn
    rw [up_self]
    rfl
  · rw [va_up_ne _ _ hq]
    exact ite_cg (fun h_bookx => ite_cg (fun hbook => rfl) (fun h_roughsx => ite_cg (fun hroughs => rfl) (fun h_pbx => ite_cg (fun hpb => rfl) (fun h_tenderx => ite_cg (fun htender => rfl) (fun h_gemsx => ite_cg (fun hgems => rfl) (fun harrC => by rw [up_ne (r := 52) (r2 := q) (by omega)])))))) (fun h_junk1y => ite_cg (fun hjunk1 => rfl) (fun h_roughy => ite_cg (fun hrough => rfl) (fun h_opRy => ite_cg (fun hopR => rfl) (fun h_gemy => ite_cg (fun hgem => rfl) (fun h_opGy => ite_cg (fun hopG => by
      unfold oOpn
      simp only [up_nj (show q - 300 ≠ i by omega)]) (fun hjunk3 => rfl))))))
theorem u_l_3 {D : Gt} {ad : Nat → Nat} {σ : Mm} {i : Nat} {x : Int32} (hi : i < 90) (q : Nat) : cO D ad (up σ 53 i x) q = va_up (cO D ad σ) (300 + i) (.inr (1, [.int (σ 50 i), .int (σ 51 i), .int (σ 52 i), .int x, .int (σ 54 i)])) q := by
  by_cases hq : q = (300 + i)
  · subst hq
    rw [va_up_self]
    rw [cO_l hi]
    unfold oOpn
    rw [up_self]
    rfl
  · rw [va_up_ne _ _ hq]
    exact ite_cg (fun h_bookx => ite_cg (fun hbook => rfl) (fun h_roughsx => ite_cg (fun hroughs => rfl) (fun h_pbx => ite_cg (fun hpb => rfl) (fun h_tenderx => ite_cg (fun htender => rfl) (fun h_gemsx => ite_cg (fun hgems => rfl) (fun harrC => by rw [up_ne (r := 53) (r2 := q) (by omega)])))))) (fun h_junk1y => ite_cg (fun hjunk1 => rfl) (fun h_roughy => ite_cg (fun hrough => rfl) (fun h_opRy => ite_cg (fun hopR => rfl) (fun h_gemy => ite_cg (fun hgem => rfl) (fun h_opGy => ite_cg (fun hopG => by
      unfold oOpn
      simp only [up_nj (show q - 300 ≠ i by omega)]) (fun hjunk3 => rfl))))))
theorem u_l_4 {D : Gt} {ad : Nat → Nat} {σ : Mm} {i : Nat} {x : Int32} (hi : i < 90) (q : Nat) : cO D ad (up σ 54 i x) q = va_up (cO D ad σ) (300 + i) (.inr (1, [.int (σ 50 i), .int (σ 51 i), .int (σ 52 i), .int (σ 53 i), .int x])) q := by
  by_cases hq : q = (300 + i)
  · subst hq
    rw [va_up_self]
    rw [cO_l hi]
    unfold oOpn
    rw [up_self]
    rfl
  · rw [va_up_ne _ _ hq]
    exact ite_cg (fun h_bookx => ite_cg (fun hbook => rfl) (fun h_roughsx => ite_cg (fun hroughs => rfl) (fun h_pbx => ite_cg (fun hpb => rfl) (fun h_tenderx => ite_cg (fun htender => rfl) (fun h_gemsx => ite_cg (fun hgems => rfl) (fun harrC => by rw [up_ne (r := 54) (r2 := q) (by omega)])))))) (fun h_junk1y => ite_cg (fun hjunk1 => rfl) (fun h_roughy => ite_cg (fun hrough => rfl) (fun h_opRy => ite_cg (fun hopR => rfl) (fun h_gemy => ite_cg (fun hgem => rfl) (fun h_opGy => ite_cg (fun hopG => by
      unfold oOpn
      simp only [up_nj (show q - 300 ≠ i by omega)]) (fun hjunk3 => rfl))))))
theorem u_g_0 {D : Gt} {ad : Nat → Nat} {σ : Mm} {i : Nat} {x : Int32} (hi : i < 90) (q : Nat) : cO D ad (up σ 40 i x) q = va_up (cO D ad σ) (200 + i) (.inr (0, [.int x, .int (σ 41 i), .int (σ 42 i), .int (σ 43 i), .int (σ 44 i), .int (σ 45 i), .ref (ad (300 + i)), .int (σ 47 i), .int (σ 48 i)])) q := by
  by_cases hq : q = (200 + i)
  · subst hq
    rw [va_up_self]
    rw [cO_g hi]
    unfold oGem
    rw [up_self]
    rfl
  · rw [va_up_ne _ _ hq]
    exact ite_cg (fun h_bookx => ite_cg (fun hbook => rfl) (fun h_roughsx => ite_cg (fun hroughs => rfl) (fun h_pbx => ite_cg (fun hpb => rfl) (fun h_tenderx => ite_cg (fun htender => rfl) (fun h_gemsx => ite_cg (fun hgems => rfl) (fun harrC => by rw [up_ne (r := 40) (r2 := q) (by omega)])))))) (fun h_junk1y => ite_cg (fun hjunk1 => rfl) (fun h_roughy => ite_cg (fun hrough => rfl) (fun h_opRy => ite_cg (fun hopR => rfl) (fun h_gemy => ite_cg (fun hgem => by
      unfold oGem
      simp only [up_nj (show q - 200 ≠ i by omega)]) (fun h_opGy => ite_cg (fun hopG => rfl) (fun hjunk3 => rfl))))))
theorem u_g_1 {D : Gt} {ad : Nat → Nat} {σ : Mm} {i : Nat} {x : Int32} (hi : i < 90) (q : Nat) : cO D ad (up σ 41 i x) q = va_up (cO D ad σ) (200 + i) (.inr (0, [.int (σ 40 i), .int x, .int (σ 42 i), .int (σ 43 i), .int (σ 44 i), .int (σ 45 i), .ref (ad (300 + i)), .int (σ 47 i), .int (σ 48 i)])) q := by
  by_cases hq : q = (200 + i)
  · subst hq
    rw [va_up_self]
    rw [cO_g hi]
    unfold oGem
    rw [up_self]
    rfl
  · rw [va_up_ne _ _ hq]
    exact ite_cg (fun h_bookx => ite_cg (fun hbook => rfl) (fun h_roughsx => ite_cg (fun hroughs => rfl) (fun h_pbx => ite_cg (fun hpb => rfl) (fun h_tenderx => ite_cg (fun htender => rfl) (fun h_gemsx => ite_cg (fun hgems => rfl) (fun harrC => by rw [up_ne (r := 41) (r2 := q) (by omega)])))))) (fun h_junk1y => ite_cg (fun hjunk1 => rfl) (fun h_roughy => ite_cg (fun hrough => rfl) (fun h_opRy => ite_cg (fun hopR => rfl) (fun h_gemy => ite_cg (fun hgem => by
      unfold oGem
      simp only [up_nj (show q - 200 ≠ i by omega)]) (fun h_opGy => ite_cg (fun hopG => rfl) (fun hjunk3 => rfl))))))
theorem u_g_2 {D : Gt} {ad : Nat → Nat} {σ : Mm} {i : Nat} {x : Int32} (hi : i < 90) (q : Nat) : cO D ad (up σ 42 i x) q = va_up (cO D ad σ) (200 + i) (.inr (0, [.int (σ 40 i), .int (σ 41 i), .int x, .int (σ 43 i), .int (σ 44 i), .int (σ 45 i), .ref (ad (300 + i)), .int (σ 47 i), .int (σ 48 i)])) q := by
  by_cases hq : q = (200 + i)
  · subst hq
    rw [va_up_self]
    rw [cO_g hi]
    unfold oGem
    rw [up_self]
    rfl
  · rw [va_up_ne _ _ hq]
    exact ite_cg (fun h_bookx => ite_cg (fun hbook => rfl) (fun h_roughsx => ite_cg (fun hroughs => rfl) (fun h_pbx => ite_cg (fun hpb => rfl) (fun h_tenderx => ite_cg (fun htender => rfl) (fun h_gemsx => ite_cg (fun hgems => rfl) (fun harrC => by rw [up_ne (r := 42) (r2 := q) (by omega)])))))) (fun h_junk1y => ite_cg (fun hjunk1 => rfl) (fun h_roughy => ite_cg (fun hrough => rfl) (fun h_opRy => ite_cg (fun hopR => rfl) (fun h_gemy => ite_cg (fun hgem => by
      unfold oGem
      simp only [up_nj (show q - 200 ≠ i by omega)]) (fun h_opGy => ite_cg (fun hopG => rfl) (fun hjunk3 => rfl))))))
theorem u_g_3 {D : Gt} {ad : Nat → Nat} {σ : Mm} {i : Nat} {x : Int32} (hi : i < 90) (q : Nat) : cO D ad (up σ 43 i x) q = va_up (cO D ad σ) (200 + i) (.inr (0, [.int (σ 40 i), .int (σ 41 i), .int (σ 42 i), .int x, .int (σ 44 i), .int (σ 45 i), .ref (ad (300 + i)), .int (σ 47 i), .int (σ 48 i)])) q := by
  by_cases hq : q = (200 + i)
  · subst hq
    rw [va_up_self]
    rw [cO_g hi]
    unfold oGem
    rw [up_self]
    rfl
  · rw [va_up_ne _ _ hq]
    exact ite_cg (fun h_bookx => ite_cg (fun hbook => rfl) (fun h_roughsx => ite_cg (fun hroughs => rfl) (fun h_pbx => ite_cg (fun hpb => rfl) (fun h_tenderx => ite_cg (fun htender => rfl) (fun h_gemsx => ite_cg (fun hgems => rfl) (fun harrC => by rw [up_ne (r := 43) (r2 := q) (by omega)])))))) (fun h_junk1y => ite_cg (fun hjunk1 => rfl) (fun h_roughy => ite_cg (fun hrough => rfl) (fun h_opRy => ite_cg (fun hopR => rfl) (fun h_gemy => ite_cg (fun hgem => by
      unfold oGem
      simp only [up_nj (show q - 200 ≠ i by omega)]) (fun h_opGy => ite_cg (fun hopG => rfl) (fun hjunk3 => rfl))))))
theorem u_g_4 {D : Gt} {ad : Nat → Nat} {σ : Mm} {i : Nat} {x : Int32} (hi : i < 90) (q : Nat) : cO D ad (up σ 44 i x) q = va_up (cO D ad σ) (200 + i) (.inr (0, [.int (σ 40 i), .int (σ 41 i), .int (σ 42 i), .int (σ 43 i), .int x, .int (σ 45 i), .ref (ad (300 + i)), .int (σ 47 i), .int (σ 48 i)])) q := by
  by_cases hq : q = (200 + i)
  · subst hq
    rw [va_up_self]
    rw [cO_g hi]
    unfold oGem
    rw [up_self]
    rfl
  · rw [va_up_ne _ _ hq]
    exact ite_cg (fun h_bookx => ite_cg (fun hbook => rfl) (fun h_roughsx => ite_cg (fun hroughs => rfl) (fun h_pbx => ite_cg (fun hpb => rfl) (fun h_tenderx => ite_cg (fun htender => rfl) (fun h_gemsx => ite_cg (fun hgems => rfl) (fun harrC => by rw [up_ne (r := 44) (r2 := q) (by omega)])))))) (fun h_junk1y => ite_cg (fun hjunk1 => rfl) (fun h_roughy => ite_cg (fun hrough => rfl) (fun h_opRy => ite_cg (fun hopR => rfl) (fun h_gemy => ite_cg (fun hgem => by
      unfold oGem
      simp only [up_nj (show q - 200 ≠ i by omega)]) (fun h_opGy => ite_cg (fun hopG => rfl) (fun hjunk3 => rfl))))))
theorem u_g_5 {D : Gt} {ad : Nat → Nat} {σ : Mm} {i : Nat} {x : Int32} (hi : i < 90) (q : Nat) : cO D ad (up σ 45 i x) q = va_up (cO D ad σ) (200 + i) (.inr (0, [.int (σ 40 i), .int (σ 41 i), .int (σ 42 i), .int (σ 43 i), .int (σ 44 i), .int x, .ref (ad (300 + i)), .int (σ 47 i), .int (σ 48 i)])) q := by
  by_cases hq : q = (200 + i)
  · subst hq
    rw [va_up_self]
    rw [cO_g hi]
    unfold oGem
    rw [up_self]
    rfl
  · rw [va_up_ne _ _ hq]
    exact ite_cg (fun h_bookx => ite_cg (fun hbook => rfl) (fun h_roughsx => ite_cg (fun hroughs => rfl) (fun h_pbx => ite_cg (fun hpb => rfl) (fun h_tenderx => ite_cg (fun htender => rfl) (fun h_gemsx => ite_cg (fun hgems => rfl) (fun harrC => by rw [up_ne (r := 45) (r2 := q) (by omega)])))))) (fun h_junk1y => ite_cg (fun hjunk1 => rfl) (fun h_roughy => ite_cg (fun hrough => rfl) (fun h_opRy => ite_cg (fun hopR => rfl) (fun h_gemy => ite_cg (fun hgem => by
      unfold oGem
      simp only [up_nj (show q - 200 ≠ i by omega)]) (fun h_opGy => ite_cg (fun hopG => rfl) (fun hjunk3 => rfl))))))
theorem u_g_7 {D : Gt} {ad : Nat → Nat} {σ : Mm} {i : Nat} {x : Int32} (hi : i < 90) (q : Nat) : cO D ad (up σ 47 i x) q = va_up (cO D ad σ) (200 + i) (.inr (0, [.int (σ 40 i), .int (σ 41 i), .int (σ 42 i), .int (σ 43 i), .int (σ 44 i), .int (σ 45 i), .ref (ad (300 + i)), .int x, .int (σ 48 i)])) q := by
  by_cases hq : q = (200 + i)
  · subst hq
    rw [va_up_self]
    rw [cO_g hi]
    unfold oGem
    rw [up_self]
    rfl
  · rw [va_up_ne _ _ hq]
    exact ite_cg (fun h_bookx => ite_cg (fun hbook => rfl) (fun h_roughsx => ite_cg (fun hroughs => rfl) (fun h_pbx => ite_cg (fun hpb => rfl) (fun h_tenderx => ite_cg (fun htender => rfl) (fun h_gemsx => ite_cg (fun hgems => rfl) (fun harrC => by rw [up_ne (r := 47) (r2 := q) (by omega)])))))) (fun h_junk1y => ite_cg (fun hjunk1 => rfl) (fun h_roughy => ite_cg (fun hrough => rfl) (fun h_opRy => ite_cg (fun hopR => rfl) (fun h_gemy => ite_cg (fun hgem => by
      unfold oGem
      simp only [up_nj (show q - 200 ≠ i by omega)]) (fun h_opGy => ite_cg (fun hopG => rfl) (fun hjunk3 => rfl))))))
theorem u_g_8 {D : Gt} {ad : Nat → Nat} {σ : Mm} {i : Nat} {x : Int32} (hi : i < 90) (q : Nat) : cO D ad (up σ 48 i x) q = va_up (cO D ad σ) (200 + i) (.inr (0, [.int (σ 40 i), .int (σ 41 i), .int (σ 42 i), .int (σ 43 i), .int (σ 44 i), .int (σ 45 i), .ref (ad (300 + i)), .int (σ 47 i), .int x])) q := by
  by_cases hq : q = (200 + i)
  · subst hq
    rw [va_up_self]
    rw [cO_g hi]
    unfold oGem
    rw [up_self]
    rfl
  · rw [va_up_ne _ _ hq]
    exact ite_cg (fun h_bookx => ite_cg (fun hbook => rfl) (fun h_roughsx => ite_cg (fun hroughs => rfl) (fun h_pbx => ite_cg (fun hpb => rfl) (fun h_tenderx => ite_cg (fun htender => rfl) (fun h_gemsx => ite_cg (fun hgems => rfl) (fun harrC => by rw [up_ne (r := 48) (r2 := q) (by omega)])))))) (fun h_junk1y => ite_cg (fun hjunk1 => rfl) (fun h_roughy => ite_cg (fun hrough => rfl) (fun h_opRy => ite_cg (fun hopR => rfl) (fun h_gemy => ite_cg (fun hgem => by
      unfold oGem
      simp only [up_nj (show q - 200 ≠ i by omega)]) (fun h_opGy => ite_cg (fun hopG => rfl) (fun hjunk3 => rfl))))))
theorem u_2 {D : Gt} {ad : Nat → Nat} {σ : Mm} {i : Nat} {x : Int32} (hx : ¬ x = 0) (q : Nat) : cO D ad (up σ 2 i x) q = va_up (cO D ad σ) 2 (.inl (D.2 3, 40, .inr (.inr (.inr (.inr (va_up (rfs ad 100 (σ 2)) i (some (ad (100 + i))))))))) q := by
  by_cases hq : q = 2
  · subst hq
    rw [va_up_self]
    show Sum.inl _ = Sum.inl _
    congr 7
    funext z
    by_cases hz : z = i
    · subst hz; rw [va_up_self]; unfold rfs; rw [up_self, if_neg hx]
    · rw [va_up_ne _ _ hz]; unfold rfs; rw [up_nj hz]
  · rw [va_up_ne _ _ hq]
    exact ite_cg (fun h_bookx => ite_cg (fun hbook => rfl) (fun h_roughsx => ite_cg (fun hroughs => absurd hroughs hq) (fun h_pbx => ite_cg (fun hpb => rfl) (fun h_tenderx => ite_cg (fun htender => rfl) (fun h_gemsx => ite_cg (fun hgems => rfl) (fun harrC => by rw [up_ne (r := 2) (r2 := q) (by omega)])))))) (fun h_junk1y => ite_cg (fun hjunk1 => rfl) (fun h_roughy => ite_cg (fun hrough => rfl) (fun h_opRy => ite_cg (fun hopR => rfl) (fun h_gemy => ite_cg (fun hgem => rfl) (fun h_opGy => ite_cg (fun hopG => rfl) (fun hjunk3 => rfl))))))
theorem u_11 {D : Gt} {ad : Nat → Nat} {σ : Mm} {i : Nat} {x : Int32} (hx : ¬ x = 0) (q : Nat) : cO D ad (up σ 11 i x) q = va_up (cO D ad σ) 11 (.inl (D.2 4, 80, .inr (.inr (.inr (.inr (va_up (rfs ad 200 (σ 11)) i (some (ad (200 + i))))))))) q := by
  by_cases hq : q = 11
  · subst hq
    rw [va_up_self]
    show Sum.inl _ = Sum.inl _
    congr 7
    funext z
    by_cases hz : z = i
    · subst hz; rw [va_up_self]; unfold rfs; rw [up_self, if_neg hx]
    · rw [va_up_ne _ _ hz]; unfold rfs; rw [up_nj hz]
  · rw [va_up_ne _ _ hq]
    exact ite_cg (fun h_bookx => ite_cg (fun hbook => rfl) (fun h_roughsx => ite_cg (fun hroughs => rfl) (fun h_pbx => ite_cg (fun hpb => rfl) (fun h_tenderx => ite_cg (fun htender => rfl) (fun h_gemsx => ite_cg (fun hgems => absurd hgems hq) (fun harrC => by rw [up_ne (r := 11) (r2 := q) (by omega)])))))) (fun h_junk1y => ite_cg (fun hjunk1 => rfl) (fun h_roughy => ite_cg (fun hrough => rfl) (fun h_opRy => ite_cg (fun hopR => rfl) (fun h_gemy => ite_cg (fun hgem => rfl) (fun h_opGy => ite_cg (fun hopG => rfl) (fun hjunk3 => rfl))))))
def ftags : List Nat := [0, 1, 2, 3, 4, 5, 6, 7, 8, 9, 10, 11, 12, 13, 14]
/-- the tags of a world with nr rough stones and ng polished ones -/
def TG (nr ng : Nat) (T : List Nat) : Prop := nr ≤ 40 ∧ ng ≤ 80 ∧ ∀ k : Nat, k ∈ T ↔ (k ∈ ftags ∨ (100 ≤ k ∧ k < 100 + nr) ∨ (150 ≤ k ∧ k < 150 + nr) ∨ (200 ≤ k ∧ k < 200 + ng) ∨ (300 ≤ k ∧ k < 300 + ng))
section WROWS
variable {D : Gt} {A : Nat → Prop} {own : String} {cc : ByteArray} {n : Nat} {ret : Option FieldType} {tb : List ExceptionTableEntry} {p : Program} {l : Launch} {e : Env} {R : Room} {s : State} {m : MethodId} {args : Array Value} {below : List Frame} {meth : Method} {c : Code} {cells slots : Nat} {Q : State → Prop} {pc : Nat} {L : List (Option Value)} {st : List Value} {T : List Nat} {ad : Nat → Nat} {σ : Mm} {nr ng : Nat}
theorem fl_RX0_12 : Cond.fieldLink RX0 12 "DiamondBook$Gem" "looks" "LDiamondBook$Opinions;" ∈ UW := UW_m (i := 493) (by decide +kernel) (by decide +kernel)
theorem gX0_12 (C : CX D A RX0 cc n ret tb p s m args meth c) (hT : TG nr ng T) {i : Nat} (hi : i < ng) (d : decode cc pc = .ok (.getfield 12, 3)) (kk : V D A n (T, ad, cO D ad σ) p l e R s m args below meth c cells slots Q (pc + 3) L (.ref (ad (300 + i)) :: st)) : V D A n (T, ad, cO D ad σ) p l e R s m args below meth c cells slots Q pc L (.ref (ad (200 + i)) :: st) := by
  have h40 := hT.1
  have h80 := hT.2.1
  exact r_getf C inU0 (ci := 0) rfl 6 (by decide) fl_RX0_12 rfl ((hT.2.2 _).mpr (Or.inr (Or.inr (Or.inr (Or.inl ⟨by omega, by omega⟩))))) (cO_g (by omega)) rfl d kk
theorem fl_RX0_18 : Cond.fieldLink RX0 18 "DiamondBook$Gem" "paperPit" "I" ∈ UW := UW_m (i := 497) (by decide +kernel) (by decide +kernel)
theorem pX0_18 (C : CX D A RX0 cc n ret tb p s m args meth c) (hT : TG nr ng T) {i : Nat} (hi : i < ng) {x : Int32} (d : decode cc pc = .ok (.putfield 18, 3)) (kk : V D A n (T, ad, cO D ad (up σ 48 i x)) p l e R s m args below meth c cells slots Q (pc + 3) L st) : V D A n (T, ad, cO D ad σ) p l e R s m args below meth c cells slots Q pc L (.int x :: .ref (ad (200 + i)) :: st) := by
  have h40 := hT.1
  have h80 := hT.2.1
  exact r_putf C inU0 (ci := 0) rfl 8 (by decide) fl_RX0_18 rfl tyX0 tyX0_ok nmX0 rfl (ty := .int) (by decide +kernel) rfl rfl ((hT.2.2 _).mpr (Or.inr (Or.inr (Or.inr (Or.inl ⟨by omega, by omega⟩))))) (cO_g (by omega)) (by show 8 < 9; decide) (fun q => u_g_8 (by omega) q) d kk
theorem fl_RX0_22 : (RX0, 22, "DiamondBook$Rough", "number", "I", "DiamondBook") ∈ NF := List.mem_of_getElem? (i := 17) (by decide +kernel)
theorem gX0_22 (C : CX D A RX0 cc n ret tb p s m args meth c) (hT : TG nr ng T) {i : Nat} (hi : i < nr) (d : decode cc pc = .ok (.getfield 22, 3)) (kk : V D A n (T, ad, cO D ad σ) p l e R s m args below meth c cells slots Q (pc + 3) L (.int (σ 20 i) :: st)) : V D A n (T, ad, cO D ad σ) p l e R s m args below meth c cells slots Q pc L (.ref (ad (100 + i)) :: st) := by
  have h40 := hT.1
  have h80 := hT.2.1
  exact r_getfN C inU3 (ci := 3) rfl 0 (by decide) fl_RX0_22 rfl ((hT.2.2 _).mpr (Or.inr (Or.inl ⟨by omega, by omega⟩))) (cO_r (by omega)) rfl d kk
theorem fl_RX0_27 : Cond.fieldLink RX0 27 "DiamondBook$Gem" "rough" "I" ∈ UW := UW_m (i := 481) (by decide +kernel) (by decide +kernel)
theorem fl_RX0_30 : (RX0, 30, "DiamondBook$Rough", "clarity", "I", "DiamondBook") ∈ NF := List.mem_of_getElem? (i := 24) (by decide +kernel)
theorem gX0_30 (C : CX D A RX0 cc n ret tb p s m args meth c) (hT : TG nr ng T) {i : Nat} (hi : i < nr) (d : decode cc pc = .ok (.getfield 30, 3)) (kk : V D A n (T, ad, cO D ad σ) p l e R s m args below meth c cells slots Q (pc + 3) L (.int (σ 25 i) :: st)) : V D A n (T, ad, cO D ad σ) p l e R s m args below meth c cells slots Q pc L (.ref (ad (100 + i)) :: st) := by
  have h40 := hT.1
  have h80 := hT.2.1
  exact r_getfN C inU3 (ci := 3) rfl 5 (by decide) fl_RX0_30 rfl ((hT.2.2 _).mpr (Or.inr (Or.inl ⟨by omega, by omega⟩))) (cO_r (by omega)) rfl d kk
theorem fl_RX0_33 : Cond.fieldLink RX0 33 "DiamondBook$Gem" "clarity" "I" ∈ UW := UW_m (i := 483) (by decide +kernel) (by decide +kernel)
theorem fl_RX0_34 : (RX0, 34, "DiamondBook$Rough", "pit", "I", "DiamondBook") ∈ NF := List.mem_of_getElem? (i := 19) (by decide +kernel)
theorem gX0_34 (C : CX D A RX0 cc n ret tb p s m args meth c) (hT : TG nr ng T) {i : Nat} (hi : i < nr) (d : decode cc pc = .ok (.getfield 34, 3)) (kk : V D A n (T, ad, cO D ad σ) p l e R s m args below meth c cells slots Q (pc + 3) L (.int (σ 22 i) :: st)) : V D A n (T, ad, cO D ad σ) p l e R s m args below meth c cells slots Q pc L (.ref (ad (100 + i)) :: st) := by
  have h40 := hT.1
  have h80 := hT.2.1
  exact r_getfN C inU3 (ci := 3) rfl 2 (by decide) fl_RX0_34 rfl ((hT.2.2 _).mpr (Or.inr (Or.inl ⟨by omega, by omega⟩))) (cO_r (by omega)) rfl d kk
theorem fl_RX0_37 : Cond.fieldLink RX0 37 "DiamondBook$Gem" "origin" "I" ∈ UW := UW_m (i := 485) (by decide +kernel) (by decide +kernel)
theorem fl_RX0_40 : (RX0, 40, "DiamondBook$Rough", "owner", "I", "DiamondBook") ∈ NF := List.mem_of_getElem? (i := 29) (by decide +kernel)
theorem gX0_40 (C : CX D A RX0 cc n ret tb p s m args meth c) (hT : TG nr ng T) {i : Nat} (hi : i < nr) (d : decode cc pc = .ok (.getfield 40, 3)) (kk : V D A n (T, ad, cO D ad σ) p l e R s m args below meth c cells slots Q (pc + 3) L (.int (σ 29 i) :: st)) : V D A n (T, ad, cO D ad σ) p l e R s m args below meth c cells slots Q pc L (.ref (ad (100 + i)) :: st) := by
  have h40 := hT.1
  have h80 := hT.2.1
  exact r_getfN C inU3 (ci := 3) rfl 9 (by decide) fl_RX0_40 rfl ((hT.2.2 _).mpr (Or.inr (Or.inl ⟨by omega, by omega⟩))) (cO_r (by omega)) rfl d kk
theorem fl_RX0_43 : Cond.fieldLink RX0 43 "DiamondBook$Gem" "owner" "I" ∈ UW := UW_m (i := 487) (by decide +kernel) (by decide +kernel)
theorem fl_RX0_44 : Cond.fieldLink RX0 44 "DiamondBook$Gem" "firstCell" "I" ∈ UW := UW_m (i := 489) (by decide +kernel) (by decide +kernel)
theorem fl_RX0_47 : Cond.fieldLink RX0 47 "DiamondBook$Gem" "cells" "I" ∈ UW := UW_m (i := 491) (by decide +kernel) (by decide +kernel)
theorem fl_RX0_50 : (RX0, 50, "DiamondBook$Rough", "weight", "I", "DiamondBook") ∈ NF := List.mem_of_getElem? (i := 20) (by decide +kernel)
theorem gX0_50 (C : CX D A RX0 cc n ret tb p s m args meth c) (hT : TG nr ng T) {i : Nat} (hi : i < nr) (d : decode cc pc = .ok (.getfield 50, 3)) (kk : V D A n (T, ad, cO D ad σ) p l e R s m args below meth c cells slots Q (pc + 3) L (.int (σ 23 i) :: st)) : V D A n (T, ad, cO D ad σ) p l e R s m args below meth c cells slots Q pc L (.ref (ad (100 + i)) :: st) := by
  have h40 := hT.1
  have h80 := hT.2.1
  exact r_getfN C inU3 (ci := 3) rfl 3 (by decide) fl_RX0_50 rfl ((hT.2.2 _).mpr (Or.inr (Or.inl ⟨by omega, by omega⟩))) (cO_r (by omega)) rfl d kk
theorem fl_RX0_53 : Cond.fieldLink RX0 53 "DiamondBook$Gem" "weight" "I" ∈ UW := UW_m (i := 495) (by decide +kernel) (by decide +kernel)
theorem gX0_53 (C : CX D A RX0 cc n ret tb p s m args meth c) (hT : TG nr ng T) {i : Nat} (hi : i < ng) (d : decode cc pc = .ok (.getfield 53, 3)) (kk : V D A n (T, ad, cO D ad σ) p l e R s m args below meth c cells slots Q (pc + 3) L (.int (σ 47 i) :: st)) : V D A n (T, ad, cO D ad σ) p l e R s m args below meth c cells slots Q pc L (.ref (ad (200 + i)) :: st) := by
  have h40 := hT.1
  have h80 := hT.2.1
  exact r_getf C inU0 (ci := 0) rfl 7 (by decide) fl_RX0_53 rfl ((hT.2.2 _).mpr (Or.inr (Or.inr (Or.inr (Or.inl ⟨by omega, by omega⟩))))) (cO_g (by omega)) rfl d kk
theorem pX0_53 (C : CX D A RX0 cc n ret tb p s m args meth c) (hT : TG nr ng T) {i : Nat} (hi : i < ng) {x : Int32} (d : decode cc pc = .ok (.putfield 53, 3)) (kk : V D A n (T, ad, cO D ad (up σ 47 i x)) p l e R s m args below meth c cells slots Q (pc + 3) L st) : V D A n (T, ad, cO D ad σ) p l e R s m args below meth c cells slots Q pc L (.int x :: .ref (ad (200 + i)) :: st) := by
  have h40 := hT.1
  have h80 := hT.2.1
  exact r_putf C inU0 (ci := 0) rfl 7 (by decide) fl_RX0_53 rfl tyX0 tyX0_ok nmX0 rfl (ty := .int) (by decide +kernel) rfl rfl ((hT.2.2 _).mpr (Or.inr (Or.inr (Or.inr (Or.inl ⟨by omega, by omega⟩))))) (cO_g (by omega)) (by show 7 < 9; decide) (fun q => u_g_7 (by omega) q) d kk
theorem fl_RX0_54 : (RX0, 54, "DiamondBook$Opinions", "count", "I", "DiamondBook") ∈ NF := List.mem_of_getElem? (i := 2) (by decide +kernel)
theorem gX0_54 (C : CX D A RX0 cc n ret tb p s m args meth c) {f : Nat → va_E} {t : Nat} {w0 w1 w2 w3 w4 : Value} (ht : t ∈ T) (ho : f t = .inr (1, [w0, w1, w2, w3, w4])) (d : decode cc pc = .ok (.getfield 54, 3)) (kk : V D A n (T, ad, f) p l e R s m args below meth c cells slots Q (pc + 3) L (w1 :: st)) : V D A n (T, ad, f) p l e R s m args below meth c cells slots Q pc L (.ref (ad t) :: st) := r_getfN C inU1 (ci := 1) rfl 1 (by decide) fl_RX0_54 rfl ht ho rfl d kk
theorem fl_RX0_57 : (RX0, 57, "DiamondBook$Opinions", "first", "I", "DiamondBook") ∈ NF := List.mem_of_getElem? (i := 4) (by decide +kernel)
theorem gX0_57 (C : CX D A RX0 cc n ret tb p s m args meth c) {f : Nat → va_E} {t : Nat} {w0 w1 w2 w3 w4 : Value} (ht : t ∈ T) (ho : f t = .inr (1, [w0, w1, w2, w3, w4])) (d : decode cc pc = .ok (.getfield 57, 3)) (kk : V D A n (T, ad, f) p l e R s m args below meth c cells slots Q (pc + 3) L (w2 :: st)) : V D A n (T, ad, f) p l e R s m args below meth c cells slots Q pc L (.ref (ad t) :: st) := r_getfN C inU1 (ci := 1) rfl 2 (by decide) fl_RX0_57 rfl ht ho rfl d kk
theorem fl_RX0_60 : (RX0, 60, "DiamondBook$Opinions", "second", "I", "DiamondBook") ∈ NF := List.mem_of_getElem? (i := 6) (by decide +kernel)
theorem gX0_60 (C : CX D A RX0 cc n ret tb p s m args meth c) {f : Nat → va_E} {t : Nat} {w0 w1 w2 w3 w4 : Value} (ht : t ∈ T) (ho : f t = .inr (1, [w0, w1, w2, w3, w4])) (d : decode cc pc = .ok (.getfield 60, 3)) (kk : V D A n (T, ad, f) p l e R s m args below meth c cells slots Q (pc + 3) L (w3 :: st)) : V D A n (T, ad, f) p l e R s m args below meth c cells slots Q pc L (.ref (ad t) :: st) := r_getfN C inU1 (ci := 1) rfl 3 (by decide) fl_RX0_60 rfl ht ho rfl d kk
theorem fl_RX1_7 : Cond.fieldLink RX1 7 "DiamondBook$Opinions" "tellers" "I" ∈ UW := UW_m (i := 459) (by decide +kernel) (by decide +kernel)
theorem gX1_7 (C : CX D A RX1 cc n ret tb p s m args meth c) {f : Nat → va_E} {t : Nat} {w0 w1 w2 w3 w4 : Value} (ht : t ∈ T) (ho : f t = .inr (1, [w0, w1, w2, w3, w4])) (d : decode cc pc = .ok (.getfield 7, 3)) (kk : V D A n (T, ad, f) p l e R s m args below meth c cells slots Q (pc + 3) L (w0 :: st)) : V D A n (T, ad, f) p l e R s m args below meth c cells slots Q pc L (.ref (ad t) :: st) := r_getf C inU1 (ci := 1) rfl 0 (by decide) fl_RX1_7 rfl ht ho rfl d kk
theorem pX1_7 (C : CX D A RX1 cc n ret tb p s m args meth c) {f : Nat → va_E} {t : Nat} {w0 w1 w2 w3 w4 : Value} {x : Int32} (ht : t ∈ T) (ho : f t = .inr (1, [w0, w1, w2, w3, w4])) (d : decode cc pc = .ok (.putfield 7, 3)) (kk : V D A n (T, ad, va_up f t (.inr (1, [.int x, w1, w2, w3, w4]))) p l e R s m args below meth c cells slots Q (pc + 3) L st) : V D A n (T, ad, f) p l e R s m args below meth c cells slots Q pc L (.int x :: .ref (ad t) :: st) := r_putf C inU1 (ci := 1) rfl 0 (by decide) fl_RX1_7 rfl tyX1 tyX1_ok nmX1 rfl (ty := .int) (by decide +kernel) rfl rfl ht ho (by show 0 < 5; decide) (fun _ => rfl) d kk
theorem fl_RX1_13 : Cond.fieldLink RX1 13 "DiamondBook$Opinions" "count" "I" ∈ UW := UW_m (i := 461) (by decide +kernel) (by decide +kernel)
theorem gX1_13 (C : CX D A RX1 cc n ret tb p s m args meth c) {f : Nat → va_E} {t : Nat} {w0 w1 w2 w3 w4 : Value} (ht : t ∈ T) (ho : f t = .inr (1, [w0, w1, w2, w3, w4])) (d : decode cc pc = .ok (.getfield 13, 3)) (kk : V D A n (T, ad, f) p l e R s m args below meth c cells slots Q (pc + 3) L (w1 :: st)) : V D A n (T, ad, f) p l e R s m args below meth c cells slots Q pc L (.ref (ad t) :: st) := r_getf C inU1 (ci := 1) rfl 1 (by decide) fl_RX1_13 rfl ht ho rfl d kk
theorem pX1_13 (C : CX D A RX1 cc n ret tb p s m args meth c) {f : Nat → va_E} {t : Nat} {w0 w1 w2 w3 w4 : Value} {x : Int32} (ht : t ∈ T) (ho : f t = .inr (1, [w0, w1, w2, w3, w4])) (d : decode cc pc = .ok (.putfield 13, 3)) (kk : V D A n (T, ad, va_up f t (.inr (1, [w0, .int x, w2, w3, w4]))) p l e R s m args below meth c cells slots Q (pc + 3) L st) : V D A n (T, ad, f) p l e R s m args below meth c cells slots Q pc L (.int x :: .ref (ad t) :: st) := r_putf C inU1 (ci := 1) rfl 1 (by decide) fl_RX1_13 rfl tyX1 tyX1_ok nmX1 rfl (ty := .int) (by decide +kernel) rfl rfl ht ho (by show 1 < 5; decide) (fun _ => rfl) d kk
theorem fl_RX1_16 : Cond.fieldLink RX1 16 "DiamondBook$Opinions" "first" "I" ∈ UW := UW_m (i := 465) (by decide +kernel) (by decide +kernel)
theorem gX1_16 (C : CX D A RX1 cc n ret tb p s m args meth c) {f : Nat → va_E} {t : Nat} {w0 w1 w2 w3 w4 : Value} (ht : t ∈ T) (ho : f t = .inr (1, [w0, w1, w2, w3, w4])) (d : decode cc pc = .ok (.getfield 16, 3)) (kk : V D A n (T, ad, f) p l e R s m args below meth c cells slots Q (pc + 3) L (w2 :: st)) : V D A n (T, ad, f) p l e R s m args below meth c cells slots Q pc L (.ref (ad t) :: st) := r_getf C inU1 (ci := 1) rfl 2 (by decide) fl_RX1_16 rfl ht ho rfl d kk
theorem pX1_16 (C : CX D A RX1 cc n ret tb p s m args meth c) {f : Nat → va_E} {t : Nat} {w0 w1 w2 w3 w4 : Value} {x : Int32} (ht : t ∈ T) (ho : f t = .inr (1, [w0, w1, w2, w3, w4])) (d : decode cc pc = .ok (.putfield 16, 3)) (kk : V D A n (T, ad, va_up f t (.inr (1, [w0, w1, .int x, w3, w4]))) p l e R s m args below meth c cells slots Q (pc + 3) L st) : V D A n (T, ad, f) p l e R s m args below meth c cells slots Q pc L (.int x :: .ref (ad t) :: st) := r_putf C inU1 (ci := 1) rfl 2 (by decide) fl_RX1_16 rfl tyX1 tyX1_ok nmX1 rfl (ty := .int) (by decide +kernel) rfl rfl ht ho (by show 2 < 5; decide) (fun _ => rfl) d kk
theorem fl_RX1_19 : Cond.fieldLink RX1 19 "DiamondBook$Opinions" "second" "I" ∈ UW := UW_m (i := 468) (by decide +kernel) (by decide +kernel)
theorem gX1_19 (C : CX D A RX1 cc n ret tb p s m args meth c) {f : Nat → va_E} {t : Nat} {w0 w1 w2 w3 w4 : Value} (ht : t ∈ T) (ho : f t = .inr (1, [w0, w1, w2, w3, w4])) (d : decode cc pc = .ok (.getfield 19, 3)) (kk : V D A n (T, ad, f) p l e R s m args below meth c cells slots Q (pc + 3) L (w3 :: st)) : V D A n (T, ad, f) p l e R s m args below meth c cells slots Q pc L (.ref (ad t) :: st) := r_getf C inU1 (ci := 1) rfl 3 (by decide) fl_RX1_19 rfl ht ho rfl d kk
theorem pX1_19 (C : CX D A RX1 cc n ret tb p s m args meth c) {f : Nat → va_E} {t : Nat} {w0 w1 w2 w3 w4 : Value} {x : Int32} (ht : t ∈ T) (ho : f t = .inr (1, [w0, w1, w2, w3, w4])) (d : decode cc pc = .ok (.putfield 19, 3)) (kk : V D A n (T, ad, va_up f t (.inr (1, [w0, w1, w2, .int x, w4]))) p l e R s m args below meth c cells slots Q (pc + 3) L st) : V D A n (T, ad, f) p l e R s m args below meth c cells slots Q pc L (.int x :: .ref (ad t) :: st) := r_putf C inU1 (ci := 1) rfl 3 (by decide) fl_RX1_19 rfl tyX1 tyX1_ok nmX1 rfl (ty := .int) (by decide +kernel) rfl rfl ht ho (by show 3 < 5; decide) (fun _ => rfl) d kk
theorem fl_RX1_22 : Cond.fieldLink RX1 22 "DiamondBook$Opinions" "third" "I" ∈ UW := UW_m (i := 469) (by decide +kernel) (by decide +kernel)
theorem gX1_22 (C : CX D A RX1 cc n ret tb p s m args meth c) {f : Nat → va_E} {t : Nat} {w0 w1 w2 w3 w4 : Value} (ht : t ∈ T) (ho : f t = .inr (1, [w0, w1, w2, w3, w4])) (d : decode cc pc = .ok (.getfield 22, 3)) (kk : V D A n (T, ad, f) p l e R s m args below meth c cells slots Q (pc + 3) L (w4 :: st)) : V D A n (T, ad, f) p l e R s m args below meth c cells slots Q pc L (.ref (ad t) :: st) := r_getf C inU1 (ci := 1) rfl 4 (by decide) fl_RX1_22 rfl ht ho rfl d kk
theorem pX1_22 (C : CX D A RX1 cc n ret tb p s m args meth c) {f : Nat → va_E} {t : Nat} {w0 w1 w2 w3 w4 : Value} {x : Int32} (ht : t ∈ T) (ho : f t = .inr (1, [w0, w1, w2, w3, w4])) (d : decode cc pc = .ok (.putfield 22, 3)) (kk : V D A n (T, ad, va_up f t (.inr (1, [w0, w1, w2, w3, .int x]))) p l e R s m args below meth c cells slots Q (pc + 3) L st) : V D A n (T, ad, f) p l e R s m args below meth c cells slots Q pc L (.int x :: .ref (ad t) :: st) := r_putf C inU1 (ci := 1) rfl 4 (by decide) fl_RX1_22 rfl tyX1 tyX1_ok nmX1 rfl (ty := .int) (by decide +kernel) rfl rfl ht ho (by show 4 < 5; decide) (fun _ => rfl) d kk
theorem fl_RX2_9 : Cond.fieldLink RX2 9 "DiamondBook$PriceBook" "caratPrices" "[I" ∈ UW := UW_m (i := 51) (by decide +kernel) (by decide +kernel)
theorem gX2_9 (C : CX D A RX2 cc n ret tb p s m args meth c) (hT : TG nr ng T)  (d : decode cc pc = .ok (.getfield 9, 3)) (kk : V D A n (T, ad, cO D ad σ) p l e R s m args below meth c cells slots Q (pc + 3) L (.ref (ad 5) :: st)) : V D A n (T, ad, cO D ad σ) p l e R s m args below meth c cells slots Q pc L (.ref (ad 4) :: st) := by
  have h40 := hT.1
  have h80 := hT.2.1
  exact r_getf C inU2 (ci := 2) rfl 0 (by decide) fl_RX2_9 rfl ((hT.2.2 _).mpr (Or.inl (by decide))) (rfl) rfl d kk
theorem fl_RX2_25 : (RX2, 25, "DiamondBook$Rough", "weight", "I", "DiamondBook") ∈ NF := List.mem_of_getElem? (i := 21) (by decide +kernel)
theorem gX2_25 (C : CX D A RX2 cc n ret tb p s m args meth c) (hT : TG nr ng T) {i : Nat} (hi : i < nr) (d : decode cc pc = .ok (.getfield 25, 3)) (kk : V D A n (T, ad, cO D ad σ) p l e R s m args below meth c cells slots Q (pc + 3) L (.int (σ 23 i) :: st)) : V D A n (T, ad, cO D ad σ) p l e R s m args below meth c cells slots Q pc L (.ref (ad (100 + i)) :: st) := by
  have h40 := hT.1
  have h80 := hT.2.1
  exact r_getfN C inU3 (ci := 3) rfl 3 (by decide) fl_RX2_25 rfl ((hT.2.2 _).mpr (Or.inr (Or.inl ⟨by omega, by omega⟩))) (cO_r (by omega)) rfl d kk
theorem fl_RX3_12 : Cond.fieldLink RX3 12 "DiamondBook$Rough" "sorts" "LDiamondBook$Opinions;" ∈ UW := UW_m (i := 607) (by decide +kernel) (by decide +kernel)
theorem gX3_12 (C : CX D A RX3 cc n ret tb p s m args meth c) (hT : TG nr ng T) {i : Nat} (hi : i < nr) (d : decode cc pc = .ok (.getfield 12, 3)) (kk : V D A n (T, ad, cO D ad σ) p l e R s m args below meth c cells slots Q (pc + 3) L (.ref (ad (150 + i)) :: st)) : V D A n (T, ad, cO D ad σ) p l e R s m args below meth c cells slots Q pc L (.ref (ad (100 + i)) :: st) := by
  have h40 := hT.1
  have h80 := hT.2.1
  exact r_getf C inU3 (ci := 3) rfl 7 (by decide) fl_RX3_12 rfl ((hT.2.2 _).mpr (Or.inr (Or.inl ⟨by omega, by omega⟩))) (cO_r (by omega)) rfl d kk
theorem fl_RX3_18 : Cond.fieldLink RX3 18 "DiamondBook$Rough" "state" "I" ∈ UW := UW_m (i := 609) (by decide +kernel) (by decide +kernel)
theorem gX3_18 (C : CX D A RX3 cc n ret tb p s m args meth c) (hT : TG nr ng T) {i : Nat} (hi : i < nr) (d : decode cc pc = .ok (.getfield 18, 3)) (kk : V D A n (T, ad, cO D ad σ) p l e R s m args below meth c cells slots Q (pc + 3) L (.int (σ 28 i) :: st)) : V D A n (T, ad, cO D ad σ) p l e R s m args below meth c cells slots Q pc L (.ref (ad (100 + i)) :: st) := by
  have h40 := hT.1
  have h80 := hT.2.1
  exact r_getf C inU3 (ci := 3) rfl 8 (by decide) fl_RX3_18 rfl ((hT.2.2 _).mpr (Or.inr (Or.inl ⟨by omega, by omega⟩))) (cO_r (by omega)) rfl d kk
theorem pX3_18 (C : CX D A RX3 cc n ret tb p s m args meth c) (hT : TG nr ng T) {i : Nat} (hi : i < nr) {x : Int32} (d : decode cc pc = .ok (.putfield 18, 3)) (kk : V D A n (T, ad, cO D ad (up σ 28 i x)) p l e R s m args below meth c cells slots Q (pc + 3) L st) : V D A n (T, ad, cO D ad σ) p l e R s m args below meth c cells slots Q pc L (.int x :: .ref (ad (100 + i)) :: st) := by
  have h40 := hT.1
  have h80 := hT.2.1
  exact r_putf C inU3 (ci := 3) rfl 8 (by decide) fl_RX3_18 rfl tyX3 tyX3_ok nmX3 rfl (ty := .int) (by decide +kernel) rfl rfl ((hT.2.2 _).mpr (Or.inr (Or.inl ⟨by omega, by omega⟩))) (cO_r (by omega)) (by show 8 < 12; decide) (fun q => u_r_8 (by omega) q) d kk
theorem fl_RX3_22 : Cond.fieldLink RX3 22 "DiamondBook$Rough" "owner" "I" ∈ UW := UW_m (i := 611) (by decide +kernel) (by decide +kernel)
theorem pX3_22 (C : CX D A RX3 cc n ret tb p s m args meth c) (hT : TG nr ng T) {i : Nat} (hi : i < nr) {x : Int32} (d : decode cc pc = .ok (.putfield 22, 3)) (kk : V D A n (T, ad, cO D ad (up σ 29 i x)) p l e R s m args below meth c cells slots Q (pc + 3) L st) : V D A n (T, ad, cO D ad σ) p l e R s m args below meth c cells slots Q pc L (.int x :: .ref (ad (100 + i)) :: st) := by
  have h40 := hT.1
  have h80 := hT.2.1
  exact r_putf C inU3 (ci := 3) rfl 9 (by decide) fl_RX3_22 rfl tyX3 tyX3_ok nmX3 rfl (ty := .int) (by decide +kernel) rfl rfl ((hT.2.2 _).mpr (Or.inr (Or.inl ⟨by omega, by omega⟩))) (cO_r (by omega)) (by show 9 < 12; decide) (fun q => u_r_9 (by omega) q) d kk
theorem fl_RX3_25 : Cond.fieldLink RX3 25 "DiamondBook$Rough" "box" "I" ∈ UW := UW_m (i := 614) (by decide +kernel) (by decide +kernel)
theorem pX3_25 (C : CX D A RX3 cc n ret tb p s m args meth c) (hT : TG nr ng T) {i : Nat} (hi : i < nr) {x : Int32} (d : decode cc pc = .ok (.putfield 25, 3)) (kk : V D A n (T, ad, cO D ad (up σ 30 i x)) p l e R s m args below meth c cells slots Q (pc + 3) L st) : V D A n (T, ad, cO D ad σ) p l e R s m args below meth c cells slots Q pc L (.int x :: .ref (ad (100 + i)) :: st) := by
  have h40 := hT.1
  have h80 := hT.2.1
  exact r_putf C inU3 (ci := 3) rfl 10 (by decide) fl_RX3_25 rfl tyX3 tyX3_ok nmX3 rfl (ty := .int) (by decide +kernel) rfl rfl ((hT.2.2 _).mpr (Or.inr (Or.inl ⟨by omega, by omega⟩))) (cO_r (by omega)) (by show 10 < 12; decide) (fun q => u_r_10 (by omega) q) d kk
theorem fl_RX3_28 : Cond.fieldLink RX3 28 "DiamondBook$Rough" "number" "I" ∈ UW := UW_m (i := 591) (by decide +kernel) (by decide +kernel)
theorem fl_RX3_31 : Cond.fieldLink RX3 31 "DiamondBook$Rough" "lot" "I" ∈ UW := UW_m (i := 592) (by decide +kernel) (by decide +kernel)
theorem fl_RX3_34 : Cond.fieldLink RX3 34 "DiamondBook$Rough" "pit" "I" ∈ UW := UW_m (i := 595) (by decide +kernel) (by decide +kernel)
theorem fl_RX3_37 : Cond.fieldLink RX3 37 "DiamondBook$Rough" "weight" "I" ∈ UW := UW_m (i := 596) (by decide +kernel) (by decide +kernel)
theorem gX3_37 (C : CX D A RX3 cc n ret tb p s m args meth c) (hT : TG nr ng T) {i : Nat} (hi : i < nr) (d : decode cc pc = .ok (.getfield 37, 3)) (kk : V D A n (T, ad, cO D ad σ) p l e R s m args below meth c cells slots Q (pc + 3) L (.int (σ 23 i) :: st)) : V D A n (T, ad, cO D ad σ) p l e R s m args below meth c cells slots Q pc L (.ref (ad (100 + i)) :: st) := by
  have h40 := hT.1
  have h80 := hT.2.1
  exact r_getf C inU3 (ci := 3) rfl 3 (by decide) fl_RX3_37 rfl ((hT.2.2 _).mpr (Or.inr (Or.inl ⟨by omega, by omega⟩))) (cO_r (by omega)) rfl d kk
theorem fl_RX3_40 : Cond.fieldLink RX3 40 "DiamondBook$Rough" "colour" "I" ∈ UW := UW_m (i := 600) (by decide +kernel) (by decide +kernel)
theorem fl_RX3_43 : Cond.fieldLink RX3 43 "DiamondBook$Rough" "clarity" "I" ∈ UW := UW_m (i := 603) (by decide +kernel) (by decide +kernel)
theorem fl_RX3_46 : Cond.fieldLink RX3 46 "DiamondBook$Rough" "flaws" "I" ∈ UW := UW_m (i := 605) (by decide +kernel) (by decide +kernel)
theorem fl_RX3_49 : (RX3, 49, "DiamondBook$Opinions", "count", "I", "DiamondBook") ∈ NF := List.mem_of_getElem? (i := 3) (by decide +kernel)
theorem gX3_49 (C : CX D A RX3 cc n ret tb p s m args meth c) {f : Nat → va_E} {t : Nat} {w0 w1 w2 w3 w4 : Value} (ht : t ∈ T) (ho : f t = .inr (1, [w0, w1, w2, w3, w4])) (d : decode cc pc = .ok (.getfield 49, 3)) (kk : V D A n (T, ad, f) p l e R s m args below meth c cells slots Q (pc + 3) L (w1 :: st)) : V D A n (T, ad, f) p l e R s m args below meth c cells slots Q pc L (.ref (ad t) :: st) := r_getfN C inU1 (ci := 1) rfl 1 (by decide) fl_RX3_49 rfl ht ho rfl d kk
theorem fl_RX3_52 : (RX3, 52, "DiamondBook$Opinions", "first", "I", "DiamondBook") ∈ NF := List.mem_of_getElem? (i := 5) (by decide +kernel)
theorem gX3_52 (C : CX D A RX3 cc n ret tb p s m args meth c) {f : Nat → va_E} {t : Nat} {w0 w1 w2 w3 w4 : Value} (ht : t ∈ T) (ho : f t = .inr (1, [w0, w1, w2, w3, w4])) (d : decode cc pc = .ok (.getfield 52, 3)) (kk : V D A n (T, ad, f) p l e R s m args below meth c cells slots Q (pc + 3) L (w2 :: st)) : V D A n (T, ad, f) p l e R s m args below meth c cells slots Q pc L (.ref (ad t) :: st) := r_getfN C inU1 (ci := 1) rfl 2 (by decide) fl_RX3_52 rfl ht ho rfl d kk
theorem fl_RX3_55 : (RX3, 55, "DiamondBook$Opinions", "second", "I", "DiamondBook") ∈ NF := List.mem_of_getElem? (i := 7) (by decide +kernel)
theorem gX3_55 (C : CX D A RX3 cc n ret tb p s m args meth c) {f : Nat → va_E} {t : Nat} {w0 w1 w2 w3 w4 : Value} (ht : t ∈ T) (ho : f t = .inr (1, [w0, w1, w2, w3, w4])) (d : decode cc pc = .ok (.getfield 55, 3)) (kk : V D A n (T, ad, f) p l e R s m args below meth c cells slots Q (pc + 3) L (w3 :: st)) : V D A n (T, ad, f) p l e R s m args below meth c cells slots Q pc L (.ref (ad t) :: st) := r_getfN C inU1 (ci := 1) rfl 3 (by decide) fl_RX3_55 rfl ht ho rfl d kk
theorem fl_RX4_9 : Cond.fieldLink RX4 9 "DiamondBook$Tender" "bids" "[I" ∈ UW := UW_m (i := 66) (by decide +kernel) (by decide +kernel)
theorem gX4_9 (C : CX D A RX4 cc n ret tb p s m args meth c) (hT : TG nr ng T)  (d : decode cc pc = .ok (.getfield 9, 3)) (kk : V D A n (T, ad, cO D ad σ) p l e R s m args below meth c cells slots Q (pc + 3) L (.ref (ad 10) :: st)) : V D A n (T, ad, cO D ad σ) p l e R s m args below meth c cells slots Q pc L (.ref (ad 9) :: st) := by
  have h40 := hT.1
  have h80 := hT.2.1
  exact r_getf C inU4 (ci := 4) rfl 2 (by decide) fl_RX4_9 rfl ((hT.2.2 _).mpr (Or.inl (by decide))) (rfl) rfl d kk
theorem fl_RX4_15 : Cond.fieldLink RX4 15 "DiamondBook$Tender" "rough" "LDiamondBook$Rough;" ∈ UW := UW_m (i := 62) (by decide +kernel) (by decide +kernel)
theorem gX4_15 (C : CX D A RX4 cc n ret tb p s m args meth c) (hT : TG nr ng T)  (d : decode cc pc = .ok (.getfield 15, 3)) (kk : V D A n (T, ad, cO D ad σ) p l e R s m args below meth c cells slots Q (pc + 3) L (va_rf (tdr ad (σ 9 0)) :: st)) : V D A n (T, ad, cO D ad σ) p l e R s m args below meth c cells slots Q pc L (.ref (ad 9) :: st) := by
  have h40 := hT.1
  have h80 := hT.2.1
  exact r_getf C inU4 (ci := 4) rfl 0 (by decide) fl_RX4_15 rfl ((hT.2.2 _).mpr (Or.inl (by decide))) (rfl) rfl d kk
theorem fl_RX4_19 : Cond.fieldLink RX4 19 "DiamondBook$Tender" "reserve" "I" ∈ UW := UW_m (i := 64) (by decide +kernel) (by decide +kernel)
theorem gX4_19 (C : CX D A RX4 cc n ret tb p s m args meth c) (hT : TG nr ng T)  (d : decode cc pc = .ok (.getfield 19, 3)) (kk : V D A n (T, ad, cO D ad σ) p l e R s m args below meth c cells slots Q (pc + 3) L (.int (σ 9 1) :: st)) : V D A n (T, ad, cO D ad σ) p l e R s m args below meth c cells slots Q pc L (.ref (ad 9) :: st) := by
  have h40 := hT.1
  have h80 := hT.2.1
  exact r_getf C inU4 (ci := 4) rfl 1 (by decide) fl_RX4_19 rfl ((hT.2.2 _).mpr (Or.inl (by decide))) (rfl) rfl d kk
theorem pX4_19 (C : CX D A RX4 cc n ret tb p s m args meth c) (hT : TG nr ng T)  {x : Int32} (d : decode cc pc = .ok (.putfield 19, 3)) (kk : V D A n (T, ad, cO D ad (up σ 9 1 x)) p l e R s m args below meth c cells slots Q (pc + 3) L st) : V D A n (T, ad, cO D ad σ) p l e R s m args below meth c cells slots Q pc L (.int x :: .ref (ad 9) :: st) := by
  have h40 := hT.1
  have h80 := hT.2.1
  exact r_putf C inU4 (ci := 4) rfl 1 (by decide) fl_RX4_19 rfl tyX4 tyX4_ok nmX4 rfl (ty := .int) (by decide +kernel) rfl rfl ((hT.2.2 _).mpr (Or.inl (by decide))) (rfl) (by show 1 < 3; decide) (fun q => u_9_1 q) d kk
theorem fl_RX5_9 : Cond.fieldLink RX5 9 "DiamondBook" "parcelPits" "[I" ∈ UW := UW_m (i := 79) (by decide +kernel) (by decide +kernel)
theorem gX5_9 (C : CX D A RX5 cc n ret tb p s m args meth c) (hT : TG nr ng T)  (d : decode cc pc = .ok (.getfield 9, 3)) (kk : V D A n (T, ad, cO D ad σ) p l e R s m args below meth c cells slots Q (pc + 3) L (.ref (ad 1) :: st)) : V D A n (T, ad, cO D ad σ) p l e R s m args below meth c cells slots Q pc L (.ref (ad 0) :: st) := by
  have h40 := hT.1
  have h80 := hT.2.1
  exact r_getf C inU5 (ci := 5) rfl 0 (by decide) fl_RX5_9 rfl ((hT.2.2 _).mpr (Or.inl (by decide))) (rfl) rfl d kk
theorem fl_RX5_15 : Cond.fieldLink RX5 15 "DiamondBook" "roughs" "[LDiamondBook$Rough;" ∈ UW := UW_m (i := 81) (by decide +kernel) (by decide +kernel)
theorem gX5_15 (C : CX D A RX5 cc n ret tb p s m args meth c) (hT : TG nr ng T)  (d : decode cc pc = .ok (.getfield 15, 3)) (kk : V D A n (T, ad, cO D ad σ) p l e R s m args below meth c cells slots Q (pc + 3) L (.ref (ad 2) :: st)) : V D A n (T, ad, cO D ad σ) p l e R s m args below meth c cells slots Q pc L (.ref (ad 0) :: st) := by
  have h40 := hT.1
  have h80 := hT.2.1
  exact r_getf C inU5 (ci := 5) rfl 2 (by decide) fl_RX5_15 rfl ((hT.2.2 _).mpr (Or.inl (by decide))) (rfl) rfl d kk
theorem fl_RX5_19 : Cond.fieldLink RX5 19 "DiamondBook" "drifts" "[I" ∈ UW := UW_m (i := 83) (by decide +kernel) (by decide +kernel)
theorem gX5_19 (C : CX D A RX5 cc n ret tb p s m args meth c) (hT : TG nr ng T)  (d : decode cc pc = .ok (.getfield 19, 3)) (kk : V D A n (T, ad, cO D ad σ) p l e R s m args below meth c cells slots Q (pc + 3) L (.ref (ad 3) :: st)) : V D A n (T, ad, cO D ad σ) p l e R s m args below meth c cells slots Q pc L (.ref (ad 0) :: st) := by
  have h40 := hT.1
  have h80 := hT.2.1
  exact r_getf C inU5 (ci := 5) rfl 4 (by decide) fl_RX5_19 rfl ((hT.2.2 _).mpr (Or.inl (by decide))) (rfl) rfl d kk
theorem fl_RX5_25 : Cond.fieldLink RX5 25 "DiamondBook" "book" "LDiamondBook$PriceBook;" ∈ UW := UW_m (i := 84) (by decide +kernel) (by decide +kernel)
theorem gX5_25 (C : CX D A RX5 cc n ret tb p s m args meth c) (hT : TG nr ng T)  (d : decode cc pc = .ok (.getfield 25, 3)) (kk : V D A n (T, ad, cO D ad σ) p l e R s m args below meth c cells slots Q (pc + 3) L (.ref (ad 4) :: st)) : V D A n (T, ad, cO D ad σ) p l e R s m args below meth c cells slots Q pc L (.ref (ad 0) :: st) := by
  have h40 := hT.1
  have h80 := hT.2.1
  exact r_getf C inU5 (ci := 5) rfl 5 (by decide) fl_RX5_25 rfl ((hT.2.2 _).mpr (Or.inl (by decide))) (rfl) rfl d kk
theorem fl_RX5_29 : Cond.fieldLink RX5 29 "DiamondBook" "conducts" "[I" ∈ UW := UW_m (i := 85) (by decide +kernel) (by decide +kernel)
theorem gX5_29 (C : CX D A RX5 cc n ret tb p s m args meth c) (hT : TG nr ng T)  (d : decode cc pc = .ok (.getfield 29, 3)) (kk : V D A n (T, ad, cO D ad σ) p l e R s m args below meth c cells slots Q (pc + 3) L (.ref (ad 6) :: st)) : V D A n (T, ad, cO D ad σ) p l e R s m args below meth c cells slots Q pc L (.ref (ad 0) :: st) := by
  have h40 := hT.1
  have h80 := hT.2.1
  exact r_getf C inU5 (ci := 5) rfl 6 (by decide) fl_RX5_29 rfl ((hT.2.2 _).mpr (Or.inl (by decide))) (rfl) rfl d kk
theorem fl_RX5_32 : Cond.fieldLink RX5 32 "DiamondBook" "offers" "[I" ∈ UW := UW_m (i := 86) (by decide +kernel) (by decide +kernel)
theorem gX5_32 (C : CX D A RX5 cc n ret tb p s m args meth c) (hT : TG nr ng T)  (d : decode cc pc = .ok (.getfield 32, 3)) (kk : V D A n (T, ad, cO D ad σ) p l e R s m args below meth c cells slots Q (pc + 3) L (.ref (ad 7) :: st)) : V D A n (T, ad, cO D ad σ) p l e R s m args below meth c cells slots Q pc L (.ref (ad 0) :: st) := by
  have h40 := hT.1
  have h80 := hT.2.1
  exact r_getf C inU5 (ci := 5) rfl 7 (by decide) fl_RX5_32 rfl ((hT.2.2 _).mpr (Or.inl (by decide))) (rfl) rfl d kk
theorem fl_RX5_35 : Cond.fieldLink RX5 35 "DiamondBook" "boxSums" "[I" ∈ UW := UW_m (i := 87) (by decide +kernel) (by decide +kernel)
theorem gX5_35 (C : CX D A RX5 cc n ret tb p s m args meth c) (hT : TG nr ng T)  (d : decode cc pc = .ok (.getfield 35, 3)) (kk : V D A n (T, ad, cO D ad σ) p l e R s m args below meth c cells slots Q (pc + 3) L (.ref (ad 8) :: st)) : V D A n (T, ad, cO D ad σ) p l e R s m args below meth c cells slots Q pc L (.ref (ad 0) :: st) := by
  have h40 := hT.1
  have h80 := hT.2.1
  exact r_getf C inU5 (ci := 5) rfl 8 (by decide) fl_RX5_35 rfl ((hT.2.2 _).mpr (Or.inl (by decide))) (rfl) rfl d kk
theorem fl_RX5_41 : Cond.fieldLink RX5 41 "DiamondBook" "sale" "LDiamondBook$Tender;" ∈ UW := UW_m (i := 89) (by decide +kernel) (by decide +kernel)
theorem gX5_41 (C : CX D A RX5 cc n ret tb p s m args meth c) (hT : TG nr ng T)  (d : decode cc pc = .ok (.getfield 41, 3)) (kk : V D A n (T, ad, cO D ad σ) p l e R s m args below meth c cells slots Q (pc + 3) L (.ref (ad 9) :: st)) : V D A n (T, ad, cO D ad σ) p l e R s m args below meth c cells slots Q pc L (.ref (ad 0) :: st) := by
  have h40 := hT.1
  have h80 := hT.2.1
  exact r_getf C inU5 (ci := 5) rfl 10 (by decide) fl_RX5_41 rfl ((hT.2.2 _).mpr (Or.inl (by decide))) (rfl) rfl d kk
theorem fl_RX5_47 : Cond.fieldLink RX5 47 "DiamondBook" "gems" "[LDiamondBook$Gem;" ∈ UW := UW_m (i := 90) (by decide +kernel) (by decide +kernel)
theorem gX5_47 (C : CX D A RX5 cc n ret tb p s m args meth c) (hT : TG nr ng T)  (d : decode cc pc = .ok (.getfield 47, 3)) (kk : V D A n (T, ad, cO D ad σ) p l e R s m args below meth c cells slots Q (pc + 3) L (.ref (ad 11) :: st)) : V D A n (T, ad, cO D ad σ) p l e R s m args below meth c cells slots Q pc L (.ref (ad 0) :: st) := by
  have h40 := hT.1
  have h80 := hT.2.1
  exact r_getf C inU5 (ci := 5) rfl 11 (by decide) fl_RX5_47 rfl ((hT.2.2 _).mpr (Or.inl (by decide))) (rfl) rfl d kk
theorem fl_RX5_51 : Cond.fieldLink RX5 51 "DiamondBook" "scales" "[I" ∈ UW := UW_m (i := 93) (by decide +kernel) (by decide +kernel)
theorem gX5_51 (C : CX D A RX5 cc n ret tb p s m args meth c) (hT : TG nr ng T)  (d : decode cc pc = .ok (.getfield 51, 3)) (kk : V D A n (T, ad, cO D ad σ) p l e R s m args below meth c cells slots Q (pc + 3) L (.ref (ad 12) :: st)) : V D A n (T, ad, cO D ad σ) p l e R s m args below meth c cells slots Q pc L (.ref (ad 0) :: st) := by
  have h40 := hT.1
  have h80 := hT.2.1
  exact r_getf C inU5 (ci := 5) rfl 14 (by decide) fl_RX5_51 rfl ((hT.2.2 _).mpr (Or.inl (by decide))) (rfl) rfl d kk
theorem fl_RX5_54 : Cond.fieldLink RX5 54 "DiamondBook" "came" "[I" ∈ UW := UW_m (i := 94) (by decide +kernel) (by decide +kernel)
theorem gX5_54 (C : CX D A RX5 cc n ret tb p s m args meth c) (hT : TG nr ng T)  (d : decode cc pc = .ok (.getfield 54, 3)) (kk : V D A n (T, ad, cO D ad σ) p l e R s m args below meth c cells slots Q (pc + 3) L (.ref (ad 13) :: st)) : V D A n (T, ad, cO D ad σ) p l e R s m args below meth c cells slots Q pc L (.ref (ad 0) :: st) := by
  have h40 := hT.1
  have h80 := hT.2.1
  exact r_getf C inU5 (ci := 5) rfl 15 (by decide) fl_RX5_54 rfl ((hT.2.2 _).mpr (Or.inl (by decide))) (rfl) rfl d kk
theorem fl_RX5_57 : Cond.fieldLink RX5 57 "DiamondBook" "covered" "[I" ∈ UW := UW_m (i := 95) (by decide +kernel) (by decide +kernel)
theorem gX5_57 (C : CX D A RX5 cc n ret tb p s m args meth c) (hT : TG nr ng T)  (d : decode cc pc = .ok (.getfield 57, 3)) (kk : V D A n (T, ad, cO D ad σ) p l e R s m args below meth c cells slots Q (pc + 3) L (.ref (ad 14) :: st)) : V D A n (T, ad, cO D ad σ) p l e R s m args below meth c cells slots Q pc L (.ref (ad 0) :: st) := by
  have h40 := hT.1
  have h80 := hT.2.1
  exact r_getf C inU5 (ci := 5) rfl 16 (by decide) fl_RX5_57 rfl ((hT.2.2 _).mpr (Or.inl (by decide))) (rfl) rfl d kk
theorem fl_RX5_70 : Cond.fieldLink RX5 70 "DiamondBook" "parcelCount" "I" ∈ UW := UW_m (i := 80) (by decide +kernel) (by decide +kernel)
theorem gX5_70 (C : CX D A RX5 cc n ret tb p s m args meth c) (hT : TG nr ng T)  (d : decode cc pc = .ok (.getfield 70, 3)) (kk : V D A n (T, ad, cO D ad σ) p l e R s m args below meth c cells slots Q (pc + 3) L (.int (σ 0 1) :: st)) : V D A n (T, ad, cO D ad σ) p l e R s m args below meth c cells slots Q pc L (.ref (ad 0) :: st) := by
  have h40 := hT.1
  have h80 := hT.2.1
  exact r_getf C inU5 (ci := 5) rfl 1 (by decide) fl_RX5_70 rfl ((hT.2.2 _).mpr (Or.inl (by decide))) (rfl) rfl d kk
theorem pX5_70 (C : CX D A RX5 cc n ret tb p s m args meth c) (hT : TG nr ng T)  {x : Int32} (d : decode cc pc = .ok (.putfield 70, 3)) (kk : V D A n (T, ad, cO D ad (up σ 0 1 x)) p l e R s m args below meth c cells slots Q (pc + 3) L st) : V D A n (T, ad, cO D ad σ) p l e R s m args below meth c cells slots Q pc L (.int x :: .ref (ad 0) :: st) := by
  have h40 := hT.1
  have h80 := hT.2.1
  exact r_putf C inU5 (ci := 5) rfl 1 (by decide) fl_RX5_70 rfl tyX5 tyX5_ok nmX5 rfl (ty := .int) (by decide +kernel) rfl rfl ((hT.2.2 _).mpr (Or.inl (by decide))) (rfl) (by show 1 < 17; decide) (fun q => u_0_1 q) d kk
theorem fl_RX5_89 : Cond.fieldLink RX5 89 "DiamondBook" "roughCount" "I" ∈ UW := UW_m (i := 82) (by decide +kernel) (by decide +kernel)
theorem gX5_89 (C : CX D A RX5 cc n ret tb p s m args meth c) (hT : TG nr ng T)  (d : decode cc pc = .ok (.getfield 89, 3)) (kk : V D A n (T, ad, cO D ad σ) p l e R s m args below meth c cells slots Q (pc + 3) L (.int (σ 0 3) :: st)) : V D A n (T, ad, cO D ad σ) p l e R s m args below meth c cells slots Q pc L (.ref (ad 0) :: st) := by
  have h40 := hT.1
  have h80 := hT.2.1
  exact r_getf C inU5 (ci := 5) rfl 3 (by decide) fl_RX5_89 rfl ((hT.2.2 _).mpr (Or.inl (by decide))) (rfl) rfl d kk
theorem pX5_89 (C : CX D A RX5 cc n ret tb p s m args meth c) (hT : TG nr ng T)  {x : Int32} (d : decode cc pc = .ok (.putfield 89, 3)) (kk : V D A n (T, ad, cO D ad (up σ 0 3 x)) p l e R s m args below meth c cells slots Q (pc + 3) L st) : V D A n (T, ad, cO D ad σ) p l e R s m args below meth c cells slots Q pc L (.int x :: .ref (ad 0) :: st) := by
  have h40 := hT.1
  have h80 := hT.2.1
  exact r_putf C inU5 (ci := 5) rfl 3 (by decide) fl_RX5_89 rfl tyX5 tyX5_ok nmX5 rfl (ty := .int) (by decide +kernel) rfl rfl ((hT.2.2 _).mpr (Or.inl (by decide))) (rfl) (by show 3 < 17; decide) (fun q => u_0_3 q) d kk
theorem fl_RX5_109 : (RX5, 109, "DiamondBook$Rough", "state", "I", "DiamondBook") ∈ NF := List.mem_of_getElem? (i := 28) (by decide +kernel)
theorem gX5_109 (C : CX D A RX5 cc n ret tb p s m args meth c) (hT : TG nr ng T) {i : Nat} (hi : i < nr) (d : decode cc pc = .ok (.getfield 109, 3)) (kk : V D A n (T, ad, cO D ad σ) p l e R s m args below meth c cells slots Q (pc + 3) L (.int (σ 28 i) :: st)) : V D A n (T, ad, cO D ad σ) p l e R s m args below meth c cells slots Q pc L (.ref (ad (100 + i)) :: st) := by
  have h40 := hT.1
  have h80 := hT.2.1
  exact r_getfN C inU3 (ci := 3) rfl 8 (by decide) fl_RX5_109 rfl ((hT.2.2 _).mpr (Or.inr (Or.inl ⟨by omega, by omega⟩))) (cO_r (by omega)) rfl d kk
theorem pX5_109 (C : CX D A RX5 cc n ret tb p s m args meth c) (hT : TG nr ng T) {i : Nat} (hi : i < nr) {x : Int32} (d : decode cc pc = .ok (.putfield 109, 3)) (kk : V D A n (T, ad, cO D ad (up σ 28 i x)) p l e R s m args below meth c cells slots Q (pc + 3) L st) : V D A n (T, ad, cO D ad σ) p l e R s m args below meth c cells slots Q pc L (.int x :: .ref (ad (100 + i)) :: st) := by
  have h40 := hT.1
  have h80 := hT.2.1
  exact r_putfN C inU3 (ci := 3) rfl 8 (by decide) fl_RX5_109 rfl tyX3 tyX3_ok nmX3 rfl (ty := .int) (by decide +kernel) rfl rfl ((hT.2.2 _).mpr (Or.inr (Or.inl ⟨by omega, by omega⟩))) (cO_r (by omega)) (by show 8 < 12; decide) (fun q => u_r_8 (by omega) q) d kk
theorem fl_RX5_112 : (RX5, 112, "DiamondBook$Rough", "sorts", "LDiamondBook$Opinions;", "DiamondBook") ∈ NF := List.mem_of_getElem? (i := 27) (by decide +kernel)
theorem gX5_112 (C : CX D A RX5 cc n ret tb p s m args meth c) (hT : TG nr ng T) {i : Nat} (hi : i < nr) (d : decode cc pc = .ok (.getfield 112, 3)) (kk : V D A n (T, ad, cO D ad σ) p l e R s m args below meth c cells slots Q (pc + 3) L (.ref (ad (150 + i)) :: st)) : V D A n (T, ad, cO D ad σ) p l e R s m args below meth c cells slots Q pc L (.ref (ad (100 + i)) :: st) := by
  have h40 := hT.1
  have h80 := hT.2.1
  exact r_getfN C inU3 (ci := 3) rfl 7 (by decide) fl_RX5_112 rfl ((hT.2.2 _).mpr (Or.inr (Or.inl ⟨by omega, by omega⟩))) (cO_r (by omega)) rfl d kk
theorem fl_RX5_128 : (RX5, 128, "DiamondBook$Rough", "colour", "I", "DiamondBook") ∈ NF := List.mem_of_getElem? (i := 23) (by decide +kernel)
theorem gX5_128 (C : CX D A RX5 cc n ret tb p s m args meth c) (hT : TG nr ng T) {i : Nat} (hi : i < nr) (d : decode cc pc = .ok (.getfield 128, 3)) (kk : V D A n (T, ad, cO D ad σ) p l e R s m args below meth c cells slots Q (pc + 3) L (.int (σ 24 i) :: st)) : V D A n (T, ad, cO D ad σ) p l e R s m args below meth c cells slots Q pc L (.ref (ad (100 + i)) :: st) := by
  have h40 := hT.1
  have h80 := hT.2.1
  exact r_getfN C inU3 (ci := 3) rfl 4 (by decide) fl_RX5_128 rfl ((hT.2.2 _).mpr (Or.inr (Or.inl ⟨by omega, by omega⟩))) (cO_r (by omega)) rfl d kk
theorem fl_RX5_131 : (RX5, 131, "DiamondBook$Rough", "clarity", "I", "DiamondBook") ∈ NF := List.mem_of_getElem? (i := 25) (by decide +kernel)
theorem gX5_131 (C : CX D A RX5 cc n ret tb p s m args meth c) (hT : TG nr ng T) {i : Nat} (hi : i < nr) (d : decode cc pc = .ok (.getfield 131, 3)) (kk : V D A n (T, ad, cO D ad σ) p l e R s m args below meth c cells slots Q (pc + 3) L (.int (σ 25 i) :: st)) : V D A n (T, ad, cO D ad σ) p l e R s m args below meth c cells slots Q pc L (.ref (ad (100 + i)) :: st) := by
  have h40 := hT.1
  have h80 := hT.2.1
  exact r_getfN C inU3 (ci := 3) rfl 5 (by decide) fl_RX5_131 rfl ((hT.2.2 _).mpr (Or.inr (Or.inl ⟨by omega, by omega⟩))) (cO_r (by omega)) rfl d kk
theorem fl_RX5_160 : (RX5, 160, "DiamondBook$Rough", "owner", "I", "DiamondBook") ∈ NF := List.mem_of_getElem? (i := 30) (by decide +kernel)
theorem gX5_160 (C : CX D A RX5 cc n ret tb p s m args meth c) (hT : TG nr ng T) {i : Nat} (hi : i < nr) (d : decode cc pc = .ok (.getfield 160, 3)) (kk : V D A n (T, ad, cO D ad σ) p l e R s m args below meth c cells slots Q (pc + 3) L (.int (σ 29 i) :: st)) : V D A n (T, ad, cO D ad σ) p l e R s m args below meth c cells slots Q pc L (.ref (ad (100 + i)) :: st) := by
  have h40 := hT.1
  have h80 := hT.2.1
  exact r_getfN C inU3 (ci := 3) rfl 9 (by decide) fl_RX5_160 rfl ((hT.2.2 _).mpr (Or.inr (Or.inl ⟨by omega, by omega⟩))) (cO_r (by omega)) rfl d kk
theorem fl_RX5_163 : (RX5, 163, "DiamondBook$Rough", "box", "I", "DiamondBook") ∈ NF := List.mem_of_getElem? (i := 31) (by decide +kernel)
theorem gX5_163 (C : CX D A RX5 cc n ret tb p s m args meth c) (hT : TG nr ng T) {i : Nat} (hi : i < nr) (d : decode cc pc = .ok (.getfield 163, 3)) (kk : V D A n (T, ad, cO D ad σ) p l e R s m args below meth c cells slots Q (pc + 3) L (.int (σ 30 i) :: st)) : V D A n (T, ad, cO D ad σ) p l e R s m args below meth c cells slots Q pc L (.ref (ad (100 + i)) :: st) := by
  have h40 := hT.1
  have h80 := hT.2.1
  exact r_getfN C inU3 (ci := 3) rfl 10 (by decide) fl_RX5_163 rfl ((hT.2.2 _).mpr (Or.inr (Or.inl ⟨by omega, by omega⟩))) (cO_r (by omega)) rfl d kk
theorem fl_RX5_166 : (RX5, 166, "DiamondBook$Rough", "lot", "I", "DiamondBook") ∈ NF := List.mem_of_getElem? (i := 18) (by decide +kernel)
theorem gX5_166 (C : CX D A RX5 cc n ret tb p s m args meth c) (hT : TG nr ng T) {i : Nat} (hi : i < nr) (d : decode cc pc = .ok (.getfield 166, 3)) (kk : V D A n (T, ad, cO D ad σ) p l e R s m args below meth c cells slots Q (pc + 3) L (.int (σ 21 i) :: st)) : V D A n (T, ad, cO D ad σ) p l e R s m args below meth c cells slots Q pc L (.ref (ad (100 + i)) :: st) := by
  have h40 := hT.1
  have h80 := hT.2.1
  exact r_getfN C inU3 (ci := 3) rfl 1 (by decide) fl_RX5_166 rfl ((hT.2.2 _).mpr (Or.inr (Or.inl ⟨by omega, by omega⟩))) (cO_r (by omega)) rfl d kk
theorem fl_RX5_169 : (RX5, 169, "DiamondBook$Rough", "paid", "I", "DiamondBook") ∈ NF := List.mem_of_getElem? (i := 32) (by decide +kernel)
theorem gX5_169 (C : CX D A RX5 cc n ret tb p s m args meth c) (hT : TG nr ng T) {i : Nat} (hi : i < nr) (d : decode cc pc = .ok (.getfield 169, 3)) (kk : V D A n (T, ad, cO D ad σ) p l e R s m args below meth c cells slots Q (pc + 3) L (.int (σ 31 i) :: st)) : V D A n (T, ad, cO D ad σ) p l e R s m args below meth c cells slots Q pc L (.ref (ad (100 + i)) :: st) := by
  have h40 := hT.1
  have h80 := hT.2.1
  exact r_getfN C inU3 (ci := 3) rfl 11 (by decide) fl_RX5_169 rfl ((hT.2.2 _).mpr (Or.inr (Or.inl ⟨by omega, by omega⟩))) (cO_r (by omega)) rfl d kk
theorem pX5_169 (C : CX D A RX5 cc n ret tb p s m args meth c) (hT : TG nr ng T) {i : Nat} (hi : i < nr) {x : Int32} (d : decode cc pc = .ok (.putfield 169, 3)) (kk : V D A n (T, ad, cO D ad (up σ 31 i x)) p l e R s m args below meth c cells slots Q (pc + 3) L st) : V D A n (T, ad, cO D ad σ) p l e R s m args below meth c cells slots Q pc L (.int x :: .ref (ad (100 + i)) :: st) := by
  have h40 := hT.1
  have h80 := hT.2.1
  exact r_putfN C inU3 (ci := 3) rfl 11 (by decide) fl_RX5_169 rfl tyX3 tyX3_ok nmX3 rfl (ty := .int) (by decide +kernel) rfl rfl ((hT.2.2 _).mpr (Or.inr (Or.inl ⟨by omega, by omega⟩))) (cO_r (by omega)) (by show 11 < 12; decide) (fun q => u_r_11 (by omega) q) d kk
theorem fl_RX5_180 : Cond.fieldLink RX5 180 "DiamondBook" "boxCount" "I" ∈ UW := UW_m (i := 88) (by decide +kernel) (by decide +kernel)
theorem gX5_180 (C : CX D A RX5 cc n ret tb p s m args meth c) (hT : TG nr ng T)  (d : decode cc pc = .ok (.getfield 180, 3)) (kk : V D A n (T, ad, cO D ad σ) p l e R s m args below meth c cells slots Q (pc + 3) L (.int (σ 0 9) :: st)) : V D A n (T, ad, cO D ad σ) p l e R s m args below meth c cells slots Q pc L (.ref (ad 0) :: st) := by
  have h40 := hT.1
  have h80 := hT.2.1
  exact r_getf C inU5 (ci := 5) rfl 9 (by decide) fl_RX5_180 rfl ((hT.2.2 _).mpr (Or.inl (by decide))) (rfl) rfl d kk
theorem pX5_180 (C : CX D A RX5 cc n ret tb p s m args meth c) (hT : TG nr ng T)  {x : Int32} (d : decode cc pc = .ok (.putfield 180, 3)) (kk : V D A n (T, ad, cO D ad (up σ 0 9 x)) p l e R s m args below meth c cells slots Q (pc + 3) L st) : V D A n (T, ad, cO D ad σ) p l e R s m args below meth c cells slots Q pc L (.int x :: .ref (ad 0) :: st) := by
  have h40 := hT.1
  have h80 := hT.2.1
  exact r_putf C inU5 (ci := 5) rfl 9 (by decide) fl_RX5_180 rfl tyX5 tyX5_ok nmX5 rfl (ty := .int) (by decide +kernel) rfl rfl ((hT.2.2 _).mpr (Or.inl (by decide))) (rfl) (by show 9 < 17; decide) (fun q => u_0_9 q) d kk
theorem fl_RX5_222 : (RX5, 222, "DiamondBook$Tender", "rough", "LDiamondBook$Rough;", "DiamondBook") ∈ NF := List.mem_of_getElem? (i := 0) (by decide +kernel)
theorem gX5_222 (C : CX D A RX5 cc n ret tb p s m args meth c) (hT : TG nr ng T)  (d : decode cc pc = .ok (.getfield 222, 3)) (kk : V D A n (T, ad, cO D ad σ) p l e R s m args below meth c cells slots Q (pc + 3) L (va_rf (tdr ad (σ 9 0)) :: st)) : V D A n (T, ad, cO D ad σ) p l e R s m args below meth c cells slots Q pc L (.ref (ad 9) :: st) := by
  have h40 := hT.1
  have h80 := hT.2.1
  exact r_getfN C inU4 (ci := 4) rfl 0 (by decide) fl_RX5_222 rfl ((hT.2.2 _).mpr (Or.inl (by decide))) (rfl) rfl d kk
theorem fl_RX5_235 : (RX5, 235, "DiamondBook$Rough", "flaws", "I", "DiamondBook") ∈ NF := List.mem_of_getElem? (i := 26) (by decide +kernel)
theorem gX5_235 (C : CX D A RX5 cc n ret tb p s m args meth c) (hT : TG nr ng T) {i : Nat} (hi : i < nr) (d : decode cc pc = .ok (.getfield 235, 3)) (kk : V D A n (T, ad, cO D ad σ) p l e R s m args below meth c cells slots Q (pc + 3) L (.int (σ 26 i) :: st)) : V D A n (T, ad, cO D ad σ) p l e R s m args below meth c cells slots Q pc L (.ref (ad (100 + i)) :: st) := by
  have h40 := hT.1
  have h80 := hT.2.1
  exact r_getfN C inU3 (ci := 3) rfl 6 (by decide) fl_RX5_235 rfl ((hT.2.2 _).mpr (Or.inr (Or.inl ⟨by omega, by omega⟩))) (cO_r (by omega)) rfl d kk
theorem fl_RX5_254 : Cond.fieldLink RX5 254 "DiamondBook" "gemCount" "I" ∈ UW := UW_m (i := 91) (by decide +kernel) (by decide +kernel)
theorem gX5_254 (C : CX D A RX5 cc n ret tb p s m args meth c) (hT : TG nr ng T)  (d : decode cc pc = .ok (.getfield 254, 3)) (kk : V D A n (T, ad, cO D ad σ) p l e R s m args below meth c cells slots Q (pc + 3) L (.int (σ 0 12) :: st)) : V D A n (T, ad, cO D ad σ) p l e R s m args below meth c cells slots Q pc L (.ref (ad 0) :: st) := by
  have h40 := hT.1
  have h80 := hT.2.1
  exact r_getf C inU5 (ci := 5) rfl 12 (by decide) fl_RX5_254 rfl ((hT.2.2 _).mpr (Or.inl (by decide))) (rfl) rfl d kk
theorem pX5_254 (C : CX D A RX5 cc n ret tb p s m args meth c) (hT : TG nr ng T)  {x : Int32} (d : decode cc pc = .ok (.putfield 254, 3)) (kk : V D A n (T, ad, cO D ad (up σ 0 12 x)) p l e R s m args below meth c cells slots Q (pc + 3) L st) : V D A n (T, ad, cO D ad σ) p l e R s m args below meth c cells slots Q pc L (.int x :: .ref (ad 0) :: st) := by
  have h40 := hT.1
  have h80 := hT.2.1
  exact r_putf C inU5 (ci := 5) rfl 12 (by decide) fl_RX5_254 rfl tyX5 tyX5_ok nmX5 rfl (ty := .int) (by decide +kernel) rfl rfl ((hT.2.2 _).mpr (Or.inl (by decide))) (rfl) (by show 12 < 17; decide) (fun q => u_0_12 q) d kk
theorem fl_RX5_259 : Cond.fieldLink RX5 259 "DiamondBook" "dust" "I" ∈ UW := UW_m (i := 92) (by decide +kernel) (by decide +kernel)
theorem gX5_259 (C : CX D A RX5 cc n ret tb p s m args meth c) (hT : TG nr ng T)  (d : decode cc pc = .ok (.getfield 259, 3)) (kk : V D A n (T, ad, cO D ad σ) p l e R s m args below meth c cells slots Q (pc + 3) L (.int (σ 0 13) :: st)) : V D A n (T, ad, cO D ad σ) p l e R s m args below meth c cells slots Q pc L (.ref (ad 0) :: st) := by
  have h40 := hT.1
  have h80 := hT.2.1
  exact r_getf C inU5 (ci := 5) rfl 13 (by decide) fl_RX5_259 rfl ((hT.2.2 _).mpr (Or.inl (by decide))) (rfl) rfl d kk
theorem pX5_259 (C : CX D A RX5 cc n ret tb p s m args meth c) (hT : TG nr ng T)  {x : Int32} (d : decode cc pc = .ok (.putfield 259, 3)) (kk : V D A n (T, ad, cO D ad (up σ 0 13 x)) p l e R s m args below meth c cells slots Q (pc + 3) L st) : V D A n (T, ad, cO D ad σ) p l e R s m args below meth c cells slots Q pc L (.int x :: .ref (ad 0) :: st) := by
  have h40 := hT.1
  have h80 := hT.2.1
  exact r_putf C inU5 (ci := 5) rfl 13 (by decide) fl_RX5_259 rfl tyX5 tyX5_ok nmX5 rfl (ty := .int) (by decide +kernel) rfl rfl ((hT.2.2 _).mpr (Or.inl (by decide))) (rfl) (by show 13 < 17; decide) (fun q => u_0_13 q) d kk
theorem fl_RX5_262 : (RX5, 262, "DiamondBook$Rough", "weight", "I", "DiamondBook") ∈ NF := List.mem_of_getElem? (i := 22) (by decide +kernel)
theorem gX5_262 (C : CX D A RX5 cc n ret tb p s m args meth c) (hT : TG nr ng T) {i : Nat} (hi : i < nr) (d : decode cc pc = .ok (.getfield 262, 3)) (kk : V D A n (T, ad, cO D ad σ) p l e R s m args below meth c cells slots Q (pc + 3) L (.int (σ 23 i) :: st)) : V D A n (T, ad, cO D ad σ) p l e R s m args below meth c cells slots Q pc L (.ref (ad (100 + i)) :: st) := by
  have h40 := hT.1
  have h80 := hT.2.1
  exact r_getfN C inU3 (ci := 3) rfl 3 (by decide) fl_RX5_262 rfl ((hT.2.2 _).mpr (Or.inr (Or.inl ⟨by omega, by omega⟩))) (cO_r (by omega)) rfl d kk
theorem fl_RX5_280 : (RX5, 280, "DiamondBook$Gem", "weight", "I", "DiamondBook") ∈ NF := List.mem_of_getElem? (i := 15) (by decide +kernel)
theorem gX5_280 (C : CX D A RX5 cc n ret tb p s m args meth c) (hT : TG nr ng T) {i : Nat} (hi : i < ng) (d : decode cc pc = .ok (.getfield 280, 3)) (kk : V D A n (T, ad, cO D ad σ) p l e R s m args below meth c cells slots Q (pc + 3) L (.int (σ 47 i) :: st)) : V D A n (T, ad, cO D ad σ) p l e R s m args below meth c cells slots Q pc L (.ref (ad (200 + i)) :: st) := by
  have h40 := hT.1
  have h80 := hT.2.1
  exact r_getfN C inU0 (ci := 0) rfl 7 (by decide) fl_RX5_280 rfl ((hT.2.2 _).mpr (Or.inr (Or.inr (Or.inr (Or.inl ⟨by omega, by omega⟩))))) (cO_g (by omega)) rfl d kk
theorem pX5_280 (C : CX D A RX5 cc n ret tb p s m args meth c) (hT : TG nr ng T) {i : Nat} (hi : i < ng) {x : Int32} (d : decode cc pc = .ok (.putfield 280, 3)) (kk : V D A n (T, ad, cO D ad (up σ 47 i x)) p l e R s m args below meth c cells slots Q (pc + 3) L st) : V D A n (T, ad, cO D ad σ) p l e R s m args below meth c cells slots Q pc L (.int x :: .ref (ad (200 + i)) :: st) := by
  have h40 := hT.1
  have h80 := hT.2.1
  exact r_putfN C inU0 (ci := 0) rfl 7 (by decide) fl_RX5_280 rfl tyX0 tyX0_ok nmX0 rfl (ty := .int) (by decide +kernel) rfl rfl ((hT.2.2 _).mpr (Or.inr (Or.inr (Or.inr (Or.inl ⟨by omega, by omega⟩))))) (cO_g (by omega)) (by show 7 < 9; decide) (fun q => u_g_7 (by omega) q) d kk
theorem fl_RX5_281 : (RX5, 281, "DiamondBook$Gem", "rough", "I", "DiamondBook") ∈ NF := List.mem_of_getElem? (i := 8) (by decide +kernel)
theorem gX5_281 (C : CX D A RX5 cc n ret tb p s m args meth c) (hT : TG nr ng T) {i : Nat} (hi : i < ng) (d : decode cc pc = .ok (.getfield 281, 3)) (kk : V D A n (T, ad, cO D ad σ) p l e R s m args below meth c cells slots Q (pc + 3) L (.int (σ 40 i) :: st)) : V D A n (T, ad, cO D ad σ) p l e R s m args below meth c cells slots Q pc L (.ref (ad (200 + i)) :: st) := by
  have h40 := hT.1
  have h80 := hT.2.1
  exact r_getfN C inU0 (ci := 0) rfl 0 (by decide) fl_RX5_281 rfl ((hT.2.2 _).mpr (Or.inr (Or.inr (Or.inr (Or.inl ⟨by omega, by omega⟩))))) (cO_g (by omega)) rfl d kk
theorem fl_RX5_283 : (RX5, 283, "DiamondBook$Gem", "firstCell", "I", "DiamondBook") ∈ NF := List.mem_of_getElem? (i := 12) (by decide +kernel)
theorem gX5_283 (C : CX D A RX5 cc n ret tb p s m args meth c) (hT : TG nr ng T) {i : Nat} (hi : i < ng) (d : decode cc pc = .ok (.getfield 283, 3)) (kk : V D A n (T, ad, cO D ad σ) p l e R s m args below meth c cells slots Q (pc + 3) L (.int (σ 44 i) :: st)) : V D A n (T, ad, cO D ad σ) p l e R s m args below meth c cells slots Q pc L (.ref (ad (200 + i)) :: st) := by
  have h40 := hT.1
  have h80 := hT.2.1
  exact r_getfN C inU0 (ci := 0) rfl 4 (by decide) fl_RX5_283 rfl ((hT.2.2 _).mpr (Or.inr (Or.inr (Or.inr (Or.inl ⟨by omega, by omega⟩))))) (cO_g (by omega)) rfl d kk
theorem fl_RX5_286 : (RX5, 286, "DiamondBook$Gem", "cells", "I", "DiamondBook") ∈ NF := List.mem_of_getElem? (i := 13) (by decide +kernel)
theorem gX5_286 (C : CX D A RX5 cc n ret tb p s m args meth c) (hT : TG nr ng T) {i : Nat} (hi : i < ng) (d : decode cc pc = .ok (.getfield 286, 3)) (kk : V D A n (T, ad, cO D ad σ) p l e R s m args below meth c cells slots Q (pc + 3) L (.int (σ 45 i) :: st)) : V D A n (T, ad, cO D ad σ) p l e R s m args below meth c cells slots Q pc L (.ref (ad (200 + i)) :: st) := by
  have h40 := hT.1
  have h80 := hT.2.1
  exact r_getfN C inU0 (ci := 0) rfl 5 (by decide) fl_RX5_286 rfl ((hT.2.2 _).mpr (Or.inr (Or.inr (Or.inr (Or.inl ⟨by omega, by omega⟩))))) (cO_g (by omega)) rfl d kk
theorem fl_RX5_289 : (RX5, 289, "DiamondBook$Gem", "owner", "I", "DiamondBook") ∈ NF := List.mem_of_getElem? (i := 11) (by decide +kernel)
theorem gX5_289 (C : CX D A RX5 cc n ret tb p s m args meth c) (hT : TG nr ng T) {i : Nat} (hi : i < ng) (d : decode cc pc = .ok (.getfield 289, 3)) (kk : V D A n (T, ad, cO D ad σ) p l e R s m args below meth c cells slots Q (pc + 3) L (.int (σ 43 i) :: st)) : V D A n (T, ad, cO D ad σ) p l e R s m args below meth c cells slots Q pc L (.ref (ad (200 + i)) :: st) := by
  have h40 := hT.1
  have h80 := hT.2.1
  exact r_getfN C inU0 (ci := 0) rfl 3 (by decide) fl_RX5_289 rfl ((hT.2.2 _).mpr (Or.inr (Or.inr (Or.inr (Or.inl ⟨by omega, by omega⟩))))) (cO_g (by omega)) rfl d kk
theorem fl_RX5_296 : (RX5, 296, "DiamondBook$Gem", "paperPit", "I", "DiamondBook") ∈ NF := List.mem_of_getElem? (i := 16) (by decide +kernel)
theorem gX5_296 (C : CX D A RX5 cc n ret tb p s m args meth c) (hT : TG nr ng T) {i : Nat} (hi : i < ng) (d : decode cc pc = .ok (.getfield 296, 3)) (kk : V D A n (T, ad, cO D ad σ) p l e R s m args below meth c cells slots Q (pc + 3) L (.int (σ 48 i) :: st)) : V D A n (T, ad, cO D ad σ) p l e R s m args below meth c cells slots Q pc L (.ref (ad (200 + i)) :: st) := by
  have h40 := hT.1
  have h80 := hT.2.1
  exact r_getfN C inU0 (ci := 0) rfl 8 (by decide) fl_RX5_296 rfl ((hT.2.2 _).mpr (Or.inr (Or.inr (Or.inr (Or.inl ⟨by omega, by omega⟩))))) (cO_g (by omega)) rfl d kk
theorem pX5_296 (C : CX D A RX5 cc n ret tb p s m args meth c) (hT : TG nr ng T) {i : Nat} (hi : i < ng) {x : Int32} (d : decode cc pc = .ok (.putfield 296, 3)) (kk : V D A n (T, ad, cO D ad (up σ 48 i x)) p l e R s m args below meth c cells slots Q (pc + 3) L st) : V D A n (T, ad, cO D ad σ) p l e R s m args below meth c cells slots Q pc L (.int x :: .ref (ad (200 + i)) :: st) := by
  have h40 := hT.1
  have h80 := hT.2.1
  exact r_putfN C inU0 (ci := 0) rfl 8 (by decide) fl_RX5_296 rfl tyX0 tyX0_ok nmX0 rfl (ty := .int) (by decide +kernel) rfl rfl ((hT.2.2 _).mpr (Or.inr (Or.inr (Or.inr (Or.inl ⟨by omega, by omega⟩))))) (cO_g (by omega)) (by show 8 < 9; decide) (fun q => u_g_8 (by omega) q) d kk
theorem fl_RX5_299 : (RX5, 299, "DiamondBook$Gem", "origin", "I", "DiamondBook") ∈ NF := List.mem_of_getElem? (i := 10) (by decide +kernel)
theorem gX5_299 (C : CX D A RX5 cc n ret tb p s m args meth c) (hT : TG nr ng T) {i : Nat} (hi : i < ng) (d : decode cc pc = .ok (.getfield 299, 3)) (kk : V D A n (T, ad, cO D ad σ) p l e R s m args below meth c cells slots Q (pc + 3) L (.int (σ 42 i) :: st)) : V D A n (T, ad, cO D ad σ) p l e R s m args below meth c cells slots Q pc L (.ref (ad (200 + i)) :: st) := by
  have h40 := hT.1
  have h80 := hT.2.1
  exact r_getfN C inU0 (ci := 0) rfl 2 (by decide) fl_RX5_299 rfl ((hT.2.2 _).mpr (Or.inr (Or.inr (Or.inr (Or.inl ⟨by omega, by omega⟩))))) (cO_g (by omega)) rfl d kk
theorem fl_RX5_304 : (RX5, 304, "DiamondBook$Gem", "looks", "LDiamondBook$Opinions;", "DiamondBook") ∈ NF := List.mem_of_getElem? (i := 14) (by decide +kernel)
theorem gX5_304 (C : CX D A RX5 cc n ret tb p s m args meth c) (hT : TG nr ng T) {i : Nat} (hi : i < ng) (d : decode cc pc = .ok (.getfield 304, 3)) (kk : V D A n (T, ad, cO D ad σ) p l e R s m args below meth c cells slots Q (pc + 3) L (.ref (ad (300 + i)) :: st)) : V D A n (T, ad, cO D ad σ) p l e R s m args below meth c cells slots Q pc L (.ref (ad (200 + i)) :: st) := by
  have h40 := hT.1
  have h80 := hT.2.1
  exact r_getfN C inU0 (ci := 0) rfl 6 (by decide) fl_RX5_304 rfl ((hT.2.2 _).mpr (Or.inr (Or.inr (Or.inr (Or.inl ⟨by omega, by omega⟩))))) (cO_g (by omega)) rfl d kk
theorem fl_RX5_309 : (RX5, 309, "DiamondBook$Gem", "clarity", "I", "DiamondBook") ∈ NF := List.mem_of_getElem? (i := 9) (by decide +kernel)
theorem gX5_309 (C : CX D A RX5 cc n ret tb p s m args meth c) (hT : TG nr ng T) {i : Nat} (hi : i < ng) (d : decode cc pc = .ok (.getfield 309, 3)) (kk : V D A n (T, ad, cO D ad σ) p l e R s m args below meth c cells slots Q (pc + 3) L (.int (σ 41 i) :: st)) : V D A n (T, ad, cO D ad σ) p l e R s m args below meth c cells slots Q pc L (.ref (ad (200 + i)) :: st) := by
  have h40 := hT.1
  have h80 := hT.2.1
  exact r_getfN C inU0 (ci := 0) rfl 1 (by decide) fl_RX5_309 rfl ((hT.2.2 _).mpr (Or.inr (Or.inr (Or.inr (Or.inl ⟨by omega, by omega⟩))))) (cO_g (by omega)) rfl d kk
theorem fl_RX5_360 : (RX5, 360, "DiamondBook$Tender", "reserve", "I", "DiamondBook") ∈ NF := List.mem_of_getElem? (i := 1) (by decide +kernel)
theorem gX5_360 (C : CX D A RX5 cc n ret tb p s m args meth c) (hT : TG nr ng T)  (d : decode cc pc = .ok (.getfield 360, 3)) (kk : V D A n (T, ad, cO D ad σ) p l e R s m args below meth c cells slots Q (pc + 3) L (.int (σ 9 1) :: st)) : V D A n (T, ad, cO D ad σ) p l e R s m args below meth c cells slots Q pc L (.ref (ad 9) :: st) := by
  have h40 := hT.1
  have h80 := hT.2.1
  exact r_getfN C inU4 (ci := 4) rfl 1 (by decide) fl_RX5_360 rfl ((hT.2.2 _).mpr (Or.inl (by decide))) (rfl) rfl d kk
theorem a1 (C : CX D A own cc n ret tb p s m args meth c) (hT : TG nr ng T) {k : Nat} {x : Int32} (hx : x = nI k) (hk : k < 12) (d : decode cc pc = .ok (.iaload, 1)) (kk : V D A n (T, ad, cO D ad σ) p l e R s m args below meth c cells slots Q (pc + 1) L (.int (σ 1 k) :: st)) : V D A n (T, ad, cO D ad σ) p l e R s m args below meth c cells slots Q pc L (.int x :: .ref (ad 1) :: st) := r_iald C ((hT.2.2 1).mpr (Or.inl (by decide))) rfl hx hk (by decide) d kk
theorem b1 (C : CX D A own cc n ret tb p s m args meth c) (hT : TG nr ng T) {k : Nat} {x y : Int32} (hx : x = nI k) (hk : k < 12) (d : decode cc pc = .ok (.iastore, 1)) (kk : V D A n (T, ad, cO D ad (up σ 1 k y)) p l e R s m args below meth c cells slots Q (pc + 1) L st) : V D A n (T, ad, cO D ad σ) p l e R s m args below meth c cells slots Q pc L (.int y :: .int x :: .ref (ad 1) :: st) := r_iast C ((hT.2.2 1).mpr (Or.inl (by decide))) rfl hx hk (by decide) (fun q => u_1 q) d kk
theorem l1 (C : CX D A own cc n ret tb p s m args meth c) (hT : TG nr ng T) (d : decode cc pc = .ok (.arraylength, 1)) (kk : V D A n (T, ad, cO D ad σ) p l e R s m args below meth c cells slots Q (pc + 1) L (.int (nI 12) :: st)) : V D A n (T, ad, cO D ad σ) p l e R s m args below meth c cells slots Q pc L (.ref (ad 1) :: st) := r_alen C ((hT.2.2 1).mpr (Or.inl (by decide))) (tk := 0) rfl rfl rfl d kk
theorem a3 (C : CX D A own cc n ret tb p s m args meth c) (hT : TG nr ng T) {k : Nat} {x : Int32} (hx : x = nI k) (hk : k < 4) (d : decode cc pc = .ok (.iaload, 1)) (kk : V D A n (T, ad, cO D ad σ) p l e R s m args below meth c cells slots Q (pc + 1) L (.int (σ 3 k) :: st)) : V D A n (T, ad, cO D ad σ) p l e R s m args below meth c cells slots Q pc L (.int x :: .ref (ad 3) :: st) := r_iald C ((hT.2.2 3).mpr (Or.inl (by decide))) rfl hx hk (by decide) d kk
theorem b3 (C : CX D A own cc n ret tb p s m args meth c) (hT : TG nr ng T) {k : Nat} {x y : Int32} (hx : x = nI k) (hk : k < 4) (d : decode cc pc = .ok (.iastore, 1)) (kk : V D A n (T, ad, cO D ad (up σ 3 k y)) p l e R s m args below meth c cells slots Q (pc + 1) L st) : V D A n (T, ad, cO D ad σ) p l e R s m args below meth c cells slots Q pc L (.int y :: .int x :: .ref (ad 3) :: st) := r_iast C ((hT.2.2 3).mpr (Or.inl (by decide))) rfl hx hk (by decide) (fun q => u_3 q) d kk
theorem l3 (C : CX D A own cc n ret tb p s m args meth c) (hT : TG nr ng T) (d : decode cc pc = .ok (.arraylength, 1)) (kk : V D A n (T, ad, cO D ad σ) p l e R s m args below meth c cells slots Q (pc + 1) L (.int (nI 4) :: st)) : V D A n (T, ad, cO D ad σ) p l e R s m args below meth c cells slots Q pc L (.ref (ad 3) :: st) := r_alen C ((hT.2.2 3).mpr (Or.inl (by decide))) (tk := 0) rfl rfl rfl d kk
theorem a5 (C : CX D A own cc n ret tb p s m args meth c) (hT : TG nr ng T) {k : Nat} {x : Int32} (hx : x = nI k) (hk : k < 76) (d : decode cc pc = .ok (.iaload, 1)) (kk : V D A n (T, ad, cO D ad σ) p l e R s m args below meth c cells slots Q (pc + 1) L (.int (σ 5 k) :: st)) : V D A n (T, ad, cO D ad σ) p l e R s m args below meth c cells slots Q pc L (.int x :: .ref (ad 5) :: st) := r_iald C ((hT.2.2 5).mpr (Or.inl (by decide))) rfl hx hk (by decide) d kk
theorem b5 (C : CX D A own cc n ret tb p s m args meth c) (hT : TG nr ng T) {k : Nat} {x y : Int32} (hx : x = nI k) (hk : k < 76) (d : decode cc pc = .ok (.iastore, 1)) (kk : V D A n (T, ad, cO D ad (up σ 5 k y)) p l e R s m args below meth c cells slots Q (pc + 1) L st) : V D A n (T, ad, cO D ad σ) p l e R s m args below meth c cells slots Q pc L (.int y :: .int x :: .ref (ad 5) :: st) := r_iast C ((hT.2.2 5).mpr (Or.inl (by decide))) rfl hx hk (by decide) (fun q => u_5 q) d kk
theorem l5 (C : CX D A own cc n ret tb p s m args meth c) (hT : TG nr ng T) (d : decode cc pc = .ok (.arraylength, 1)) (kk : V D A n (T, ad, cO D ad σ) p l e R s m args below meth c cells slots Q (pc + 1) L (.int (nI 76) :: st)) : V D A n (T, ad, cO D ad σ) p l e R s m args below meth c cells slots Q pc L (.ref (ad 5) :: st) := r_alen C ((hT.2.2 5).mpr (Or.inl (by decide))) (tk := 0) rfl rfl rfl d kk
theorem a6 (C : CX D A own cc n ret tb p s m args meth c) (hT : TG nr ng T) {k : Nat} {x : Int32} (hx : x = nI k) (hk : k < 5) (d : decode cc pc = .ok (.iaload, 1)) (kk : V D A n (T, ad, cO D ad σ) p l e R s m args below meth c cells slots Q (pc + 1) L (.int (σ 6 k) :: st)) : V D A n (T, ad, cO D ad σ) p l e R s m args below meth c cells slots Q pc L (.int x :: .ref (ad 6) :: st) := r_iald C ((hT.2.2 6).mpr (Or.inl (by decide))) rfl hx hk (by decide) d kk
theorem b6 (C : CX D A own cc n ret tb p s m args meth c) (hT : TG nr ng T) {k : Nat} {x y : Int32} (hx : x = nI k) (hk : k < 5) (d : decode cc pc = .ok (.iastore, 1)) (kk : V D A n (T, ad, cO D ad (up σ 6 k y)) p l e R s m args below meth c cells slots Q (pc + 1) L st) : V D A n (T, ad, cO D ad σ) p l e R s m args below meth c cells slots Q pc L (.int y :: .int x :: .ref (ad 6) :: st) := r_iast C ((hT.2.2 6).mpr (Or.inl (by decide))) rfl hx hk (by decide) (fun q => u_6 q) d kk
theorem l6 (C : CX D A own cc n ret tb p s m args meth c) (hT : TG nr ng T) (d : decode cc pc = .ok (.arraylength, 1)) (kk : V D A n (T, ad, cO D ad σ) p l e R s m args below meth c cells slots Q (pc + 1) L (.int (nI 5) :: st)) : V D A n (T, ad, cO D ad σ) p l e R s m args below meth c cells slots Q pc L (.ref (ad 6) :: st) := r_alen C ((hT.2.2 6).mpr (Or.inl (by decide))) (tk := 0) rfl rfl rfl d kk
theorem a7 (C : CX D A own cc n ret tb p s m args meth c) (hT : TG nr ng T) {k : Nat} {x : Int32} (hx : x = nI k) (hk : k < 5) (d : decode cc pc = .ok (.iaload, 1)) (kk : V D A n (T, ad, cO D ad σ) p l e R s m args below meth c cells slots Q (pc + 1) L (.int (σ 7 k) :: st)) : V D A n (T, ad, cO D ad σ) p l e R s m args below meth c cells slots Q pc L (.int x :: .ref (ad 7) :: st) := r_iald C ((hT.2.2 7).mpr (Or.inl (by decide))) rfl hx hk (by decide) d kk
theorem b7 (C : CX D A own cc n ret tb p s m args meth c) (hT : TG nr ng T) {k : Nat} {x y : Int32} (hx : x = nI k) (hk : k < 5) (d : decode cc pc = .ok (.iastore, 1)) (kk : V D A n (T, ad, cO D ad (up σ 7 k y)) p l e R s m args below meth c cells slots Q (pc + 1) L st) : V D A n (T, ad, cO D ad σ) p l e R s m args below meth c cells slots Q pc L (.int y :: .int x :: .ref (ad 7) :: st) := r_iast C ((hT.2.2 7).mpr (Or.inl (by decide))) rfl hx hk (by decide) (fun q => u_7 q) d kk
theorem l7 (C : CX D A own cc n ret tb p s m args meth c) (hT : TG nr ng T) (d : decode cc pc = .ok (.arraylength, 1)) (kk : V D A n (T, ad, cO D ad σ) p l e R s m args below meth c cells slots Q (pc + 1) L (.int (nI 5) :: st)) : V D A n (T, ad, cO D ad σ) p l e R s m args below meth c cells slots Q pc L (.ref (ad 7) :: st) := r_alen C ((hT.2.2 7).mpr (Or.inl (by decide))) (tk := 0) rfl rfl rfl d kk
theorem a8 (C : CX D A own cc n ret tb p s m args meth c) (hT : TG nr ng T) {k : Nat} {x : Int32} (hx : x = nI k) (hk : k < 5) (d : decode cc pc = .ok (.iaload, 1)) (kk : V D A n (T, ad, cO D ad σ) p l e R s m args below meth c cells slots Q (pc + 1) L (.int (σ 8 k) :: st)) : V D A n (T, ad, cO D ad σ) p l e R s m args below meth c cells slots Q pc L (.int x :: .ref (ad 8) :: st) := r_iald C ((hT.2.2 8).mpr (Or.inl (by decide))) rfl hx hk (by decide) d kk
theorem b8 (C : CX D A own cc n ret tb p s m args meth c) (hT : TG nr ng T) {k : Nat} {x y : Int32} (hx : x = nI k) (hk : k < 5) (d : decode cc pc = .ok (.iastore, 1)) (kk : V D A n (T, ad, cO D ad (up σ 8 k y)) p l e R s m args below meth c cells slots Q (pc + 1) L st) : V D A n (T, ad, cO D ad σ) p l e R s m args below meth c cells slots Q pc L (.int y :: .int x :: .ref (ad 8) :: st) := r_iast C ((hT.2.2 8).mpr (Or.inl (by decide))) rfl hx hk (by decide) (fun q => u_8 q) d kk
theorem l8 (C : CX D A own cc n ret tb p s m args meth c) (hT : TG nr ng T) (d : decode cc pc = .ok (.arraylength, 1)) (kk : V D A n (T, ad, cO D ad σ) p l e R s m args below meth c cells slots Q (pc + 1) L (.int (nI 5) :: st)) : V D A n (T, ad, cO D ad σ) p l e R s m args below meth c cells slots Q pc L (.ref (ad 8) :: st) := r_alen C ((hT.2.2 8).mpr (Or.inl (by decide))) (tk := 0) rfl rfl rfl d kk
theorem a10 (C : CX D A own cc n ret tb p s m args meth c) (hT : TG nr ng T) {k : Nat} {x : Int32} (hx : x = nI k) (hk : k < 5) (d : decode cc pc = .ok (.iaload, 1)) (kk : V D A n (T, ad, cO D ad σ) p l e R s m args below meth c cells slots Q (pc + 1) L (.int (σ 10 k) :: st)) : V D A n (T, ad, cO D ad σ) p l e R s m args below meth c cells slots Q pc L (.int x :: .ref (ad 10) :: st) := r_iald C ((hT.2.2 10).mpr (Or.inl (by decide))) rfl hx hk (by decide) d kk
theorem b10 (C : CX D A own cc n ret tb p s m args meth c) (hT : TG nr ng T) {k : Nat} {x y : Int32} (hx : x = nI k) (hk : k < 5) (d : decode cc pc = .ok (.iastore, 1)) (kk : V D A n (T, ad, cO D ad (up σ 10 k y)) p l e R s m args below meth c cells slots Q (pc + 1) L st) : V D A n (T, ad, cO D ad σ) p l e R s m args below meth c cells slots Q pc L (.int y :: .int x :: .ref (ad 10) :: st) := r_iast C ((hT.2.2 10).mpr (Or.inl (by decide))) rfl hx hk (by decide) (fun q => u_10 q) d kk
theorem l10 (C : CX D A own cc n ret tb p s m args meth c) (hT : TG nr ng T) (d : decode cc pc = .ok (.arraylength, 1)) (kk : V D A n (T, ad, cO D ad σ) p l e R s m args below meth c cells slots Q (pc + 1) L (.int (nI 5) :: st)) : V D A n (T, ad, cO D ad σ) p l e R s m args below meth c cells slots Q pc L (.ref (ad 10) :: st) := r_alen C ((hT.2.2 10).mpr (Or.inl (by decide))) (tk := 0) rfl rfl rfl d kk
theorem a12 (C : CX D A own cc n ret tb p s m args meth c) (hT : TG nr ng T) {k : Nat} {x : Int32} (hx : x = nI k) (hk : k < 3) (d : decode cc pc = .ok (.iaload, 1)) (kk : V D A n (T, ad, cO D ad σ) p l e R s m args below meth c cells slots Q (pc + 1) L (.int (σ 12 k) :: st)) : V D A n (T, ad, cO D ad σ) p l e R s m args below meth c cells slots Q pc L (.int x :: .ref (ad 12) :: st) := r_iald C ((hT.2.2 12).mpr (Or.inl (by decide))) rfl hx hk (by decide) d kk
theorem b12 (C : CX D A own cc n ret tb p s m args meth c) (hT : TG nr ng T) {k : Nat} {x y : Int32} (hx : x = nI k) (hk : k < 3) (d : decode cc pc = .ok (.iastore, 1)) (kk : V D A n (T, ad, cO D ad (up σ 12 k y)) p l e R s m args below meth c cells slots Q (pc + 1) L st) : V D A n (T, ad, cO D ad σ) p l e R s m args below meth c cells slots Q pc L (.int y :: .int x :: .ref (ad 12) :: st) := r_iast C ((hT.2.2 12).mpr (Or.inl (by decide))) rfl hx hk (by decide) (fun q => u_12 q) d kk
theorem l12 (C : CX D A own cc n ret tb p s m args meth c) (hT : TG nr ng T) (d : decode cc pc = .ok (.arraylength, 1)) (kk : V D A n (T, ad, cO D ad σ) p l e R s m args below meth c cells slots Q (pc + 1) L (.int (nI 3) :: st)) : V D A n (T, ad, cO D ad σ) p l e R s m args below meth c cells slots Q pc L (.ref (ad 12) :: st) := r_alen C ((hT.2.2 12).mpr (Or.inl (by decide))) (tk := 0) rfl rfl rfl d kk
theorem a13 (C : CX D A own cc n ret tb p s m args meth c) (hT : TG nr ng T) {k : Nat} {x : Int32} (hx : x = nI k) (hk : k < 4) (d : decode cc pc = .ok (.iaload, 1)) (kk : V D A n (T, ad, cO D ad σ) p l e R s m args below meth c cells slots Q (pc + 1) L (.int (σ 13 k) :: st)) : V D A n (T, ad, cO D ad σ) p l e R s m args below meth c cells slots Q pc L (.int x :: .ref (ad 13) :: st) := r_iald C ((hT.2.2 13).mpr (Or.inl (by decide))) rfl hx hk (by decide) d kk
theorem b13 (C : CX D A own cc n ret tb p s m args meth c) (hT : TG nr ng T) {k : Nat} {x y : Int32} (hx : x = nI k) (hk : k < 4) (d : decode cc pc = .ok (.iastore, 1)) (kk : V D A n (T, ad, cO D ad (up σ 13 k y)) p l e R s m args below meth c cells slots Q (pc + 1) L st) : V D A n (T, ad, cO D ad σ) p l e R s m args below meth c cells slots Q pc L (.int y :: .int x :: .ref (ad 13) :: st) := r_iast C ((hT.2.2 13).mpr (Or.inl (by decide))) rfl hx hk (by decide) (fun q => u_13 q) d kk
theorem l13 (C : CX D A own cc n ret tb p s m args meth c) (hT : TG nr ng T) (d : decode cc pc = .ok (.arraylength, 1)) (kk : V D A n (T, ad, cO D ad σ) p l e R s m args below meth c cells slots Q (pc + 1) L (.int (nI 4) :: st)) : V D A n (T, ad, cO D ad σ) p l e R s m args below meth c cells slots Q pc L (.ref (ad 13) :: st) := r_alen C ((hT.2.2 13).mpr (Or.inl (by decide))) (tk := 0) rfl rfl rfl d kk
theorem a14 (C : CX D A own cc n ret tb p s m args meth c) (hT : TG nr ng T) {k : Nat} {x : Int32} (hx : x = nI k) (hk : k < 4) (d : decode cc pc = .ok (.iaload, 1)) (kk : V D A n (T, ad, cO D ad σ) p l e R s m args below meth c cells slots Q (pc + 1) L (.int (σ 14 k) :: st)) : V D A n (T, ad, cO D ad σ) p l e R s m args below meth c cells slots Q pc L (.int x :: .ref (ad 14) :: st) := r_iald C ((hT.2.2 14).mpr (Or.inl (by decide))) rfl hx hk (by decide) d kk
theorem b14 (C : CX D A own cc n ret tb p s m args meth c) (hT : TG nr ng T) {k : Nat} {x y : Int32} (hx : x = nI k) (hk : k < 4) (d : decode cc pc = .ok (.iastore, 1)) (kk : V D A n (T, ad, cO D ad (up σ 14 k y)) p l e R s m args below meth c cells slots Q (pc + 1) L st) : V D A n (T, ad, cO D ad σ) p l e R s m args below meth c cells slots Q pc L (.int y :: .int x :: .ref (ad 14) :: st) := r_iast C ((hT.2.2 14).mpr (Or.inl (by decide))) rfl hx hk (by decide) (fun q => u_14 q) d kk
theorem l14 (C : CX D A own cc n ret tb p s m args meth c) (hT : TG nr ng T) (d : decode cc pc = .ok (.arraylength, 1)) (kk : V D A n (T, ad, cO D ad σ) p l e R s m args below meth c cells slots Q (pc + 1) L (.int (nI 4) :: st)) : V D A n (T, ad, cO D ad σ) p l e R s m args below meth c cells slots Q pc L (.ref (ad 14) :: st) := r_alen C ((hT.2.2 14).mpr (Or.inl (by decide))) (tk := 0) rfl rfl rfl d kk
theorem a2 (C : CX D A own cc n ret tb p s m args meth c) (hT : TG nr ng T) {k : Nat} {x : Int32} (hx : x = nI k) (hk : k < 40) (d : decode cc pc = .ok (.aaload, 1)) (kt : σ 2 k = 0 → V D A n (T, ad, cO D ad σ) p l e R s m args below meth c cells slots Q (pc + 1) L (.null :: st)) (kf : ¬ σ 2 k = 0 → V D A n (T, ad, cO D ad σ) p l e R s m args below meth c cells slots Q (pc + 1) L (.ref (ad (100 + k)) :: st)) : V D A n (T, ad, cO D ad σ) p l e R s m args below meth c cells slots Q pc L (.int x :: .ref (ad 2) :: st) := by
  refine r_aald C ((hT.2.2 2).mpr (Or.inl (by decide))) (tk := 1) rfl rfl hx hk (by decide) d ?_
  by_cases h0 : σ 2 k = 0
  · have e1 : rfs ad 100 (σ 2) k = none := if_pos h0
    rw [e1]; exact kt h0
  · have e1 : rfs ad 100 (σ 2) k = some (ad (100 + k)) := if_neg h0
    rw [e1]; exact kf h0
theorem l2 (C : CX D A own cc n ret tb p s m args meth c) (hT : TG nr ng T) (d : decode cc pc = .ok (.arraylength, 1)) (kk : V D A n (T, ad, cO D ad σ) p l e R s m args below meth c cells slots Q (pc + 1) L (.int (nI 40) :: st)) : V D A n (T, ad, cO D ad σ) p l e R s m args below meth c cells slots Q pc L (.ref (ad 2) :: st) := r_alen C ((hT.2.2 2).mpr (Or.inl (by decide))) (tk := 1) rfl rfl rfl d kk
theorem a11 (C : CX D A own cc n ret tb p s m args meth c) (hT : TG nr ng T) {k : Nat} {x : Int32} (hx : x = nI k) (hk : k < 80) (d : decode cc pc = .ok (.aaload, 1)) (kt : σ 11 k = 0 → V D A n (T, ad, cO D ad σ) p l e R s m args below meth c cells slots Q (pc + 1) L (.null :: st)) (kf : ¬ σ 11 k = 0 → V D A n (T, ad, cO D ad σ) p l e R s m args below meth c cells slots Q (pc + 1) L (.ref (ad (200 + k)) :: st)) : V D A n (T, ad, cO D ad σ) p l e R s m args below meth c cells slots Q pc L (.int x :: .ref (ad 11) :: st) := by
  refine r_aald C ((hT.2.2 11).mpr (Or.inl (by decide))) (tk := 2) rfl rfl hx hk (by decide) d ?_
  by_cases h0 : σ 11 k = 0
  · have e1 : rfs ad 200 (σ 11) k = none := if_pos h0
    rw [e1]; exact kt h0
  · have e1 : rfs ad 200 (σ 11) k = some (ad (200 + k)) := if_neg h0
    rw [e1]; exact kf h0
theorem l11 (C : CX D A own cc n ret tb p s m args meth c) (hT : TG nr ng T) (d : decode cc pc = .ok (.arraylength, 1)) (kk : V D A n (T, ad, cO D ad σ) p l e R s m args below meth c cells slots Q (pc + 1) L (.int (nI 80) :: st)) : V D A n (T, ad, cO D ad σ) p l e R s m args below meth c cells slots Q pc L (.ref (ad 11) :: st) := r_alen C ((hT.2.2 11).mpr (Or.inl (by decide))) (tk := 2) rfl rfl rfl d kk
end WROWS

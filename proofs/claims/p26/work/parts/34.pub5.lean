theorem ne_in {a b : Nat} {T : List Nat} (hb : b ∉ T) (ha : a ∈ T) : a ≠ b := fun e => hb (e ▸ ha)
theorem TG_sub {nr ng nr2 ng2 : Nat} {T T2 : List Nat} (h : TG nr ng T) (h2 : TG nr2 ng2 T2) (a : nr ≤ nr2) (b : ng ≤ ng2) : ∀ j, j ∈ T → j ∈ T2 := fun j hj => by
  refine (h2.2.2 j).mpr ?_
  rcases (h.2.2 j).mp hj with q | q
  · exact Or.inl q
  · refine Or.inr ?_; omega
def stC (σ : Mm) (n b a : Nat) (x2 x3 x4 x5 : Int32) : Mm := up (up (up (nuR σ n (nI b) (nI a) x2 x3 x4 x5) 2 n 1) 0 3 (nI (n + 1))) 13 a (σ 13 a + x2)
set_option maxRecDepth 100000 in
set_option maxHeartbeats 4000000 in
theorem c_X5_stone (l : Launch) (D : Gt) (hfl : l.stackTraces = false) (T : List Nat) (ad : Nat → Nat) (σ : Mm) {nr ng np nb : Nat} (hT : TG nr ng T) (hI : IC nr ng np nb σ) (hz : HZ nr ng σ) (x1 x2 x3 x4 x5 : Int32) : KI D l yX5_stone (uws yX5_stone cX5_stone 8 (some .int)) (RM 9 40 400) [.ref (ad 0), .int x1, .int x2, .int x3, .int x4, .int x5] (T, ad, cO D ad σ) (fun r S1 => ∃ (T2 : List Nat) (ad2 : Nat → Nat) (b a : Nat), (b < np ∧ x1 = nI b ∧ a < 4 ∧ σ 1 b = nI a ∧ ((12 ≤ x2 ∧ x2 ≤ 9999) ∧ (0 ≤ x3 ∧ x3 ≤ 9) ∧ (0 ≤ x4 ∧ x4 ≤ 9) ∧ (0 ≤ x5 ∧ x5 ≤ 4095)) ∧ nr < 40) ∧ TG (nr + 1) ng T2 ∧ (∀ k, k ∈ T → ad2 k = ad k) ∧ r = nI nr ∧ S1 = (T2, ad2, cO D ad2 (stC σ nr b a x2 x3 x4 x5))) (fun E => (E = sIOB ∧ ¬ (0 ≤ x1 ∧ x1 < nI np)) ∨ (E = sIAE ∧ (0 ≤ x1 ∧ x1 < nI np) ∧ ¬ ((12 ≤ x2 ∧ x2 ≤ 9999) ∧ (0 ≤ x3 ∧ x3 ≤ 9) ∧ (0 ≤ x4 ∧ x4 ≤ 9) ∧ (0 ≤ x5 ∧ x5 ≤ 4095))) ∨ (E = sISE ∧ (0 ≤ x1 ∧ x1 < nI np) ∧ ((12 ≤ x2 ∧ x2 ≤ 9999) ∧ (0 ≤ x3 ∧ x3 ≤ 9) ∧ (0 ≤ x4 ∧ x4 ≤ 9) ∧ (0 ≤ x5 ∧ x5 ≤ 4095)) ∧ ¬ nr < 40)) 40 400 := by
  refine KI_of (own := RX5) (L0 := [some (.ref (ad 0)), some (.int x1), some (.int x2), some (.int x3), some (.int x4), some (.int x5), none, none]) (by decide +kernel) rfl (catc rfl (catc rfl (catc rfl (catc rfl (catc rfl (catc rfl cat0)))))) (Nat.le_of_ble_eq_true rfl) rfl ?_
  intro p e s m args below meth c A hnm C
  have h40 := hT.1
  have hp1 := hI.2.2.1.1
  have hp2 := hI.2.2.1.2
  have hr3 := hI.2.2.2.1
  refine r_iload1 (pc := 0) C dX5_stone_0 ?_
  refine r_aload0 (pc := 1) C dX5_stone_1 ?_
  refine gX5_70 (pc := 2) C hT dX5_stone_2 ?_
  rw [hp1]
  refine kX5_66x (pc := 5) C (c_X5_needIndex l D hfl _ _ _) dX5_stone_5 (Nat.le_of_ble_eq_true rfl) (by decide) (fun E h => Or.inl h) (fun _ => rfl) ?_
  rintro _ ⟨h1, rfl⟩
  obtain ⟨b, hb, rfl⟩ := ix_of (N := np) (by omega) h1
  refine r_iload2 (pc := 8) C dX5_stone_8 ?_
  refine r_bipush (pc := 9) C (v := 12) dX5_stone_9 (by decide) ?_
  refine r_sipush (pc := 11) C (v := 9999) dX5_stone_11 (by decide) ?_
  refine kX5_85x (pc := 14) C (c_X5_needRange l D hfl _ _ _ _) dX5_stone_14 (Nat.le_of_ble_eq_true rfl) (by decide) (fun E h => Or.inr (Or.inl ⟨h.1, h1, fun q => h.2 q.1⟩)) (fun _ => rfl) ?_
  rintro _ ⟨h2, rfl⟩
  refine r_iload3 (pc := 17) C dX5_stone_17 ?_
  refine r_iconst (pc := 18) C (v := 0) dX5_stone_18 (by decide) ?_
  refine r_bipush (pc := 19) C (v := 9) dX5_stone_19 (by decide) ?_
  refine kX5_85x (pc := 21) C (c_X5_needRange l D hfl _ _ _ _) dX5_stone_21 (Nat.le_of_ble_eq_true rfl) (by decide) (fun E h => Or.inr (Or.inl ⟨h.1, h1, fun q => h.2 q.2.1⟩)) (fun _ => rfl) ?_
  rintro _ ⟨h3, rfl⟩
  refine r_iload4 (pc := 24) C dX5_stone_24 ?_
  refine r_iconst (pc := 26) C (v := 0) dX5_stone_26 (by decide) ?_
  refine r_bipush (pc := 27) C (v := 9) dX5_stone_27 (by decide) ?_
  refine kX5_85x (pc := 29) C (c_X5_needRange l D hfl _ _ _ _) dX5_stone_29 (Nat.le_of_ble_eq_true rfl) (by decide) (fun E h => Or.inr (Or.inl ⟨h.1, h1, fun q => h.2 q.2.2.1⟩)) (fun _ => rfl) ?_
  rintro _ ⟨h4, rfl⟩
  refine r_iload5 (pc := 32) C dX5_stone_32 ?_
  refine r_iconst (pc := 34) C (v := 0) dX5_stone_34 (by decide) ?_
  refine r_sipush (pc := 35) C (v := 4095) dX5_stone_35 (by decide) ?_
  refine kX5_85x (pc := 38) C (c_X5_needRange l D hfl _ _ _ _) dX5_stone_38 (Nat.le_of_ble_eq_true rfl) (by decide) (fun E h => Or.inr (Or.inl ⟨h.1, h1, fun q => h.2 q.2.2.2⟩)) (fun _ => rfl) ?_
  rintro _ ⟨h5, rfl⟩
  refine r_aload0 (pc := 41) C dX5_stone_41 ?_
  refine gX5_89 (pc := 42) C hT dX5_stone_42 ?_
  refine r_aload0 (pc := 45) C dX5_stone_45 ?_
  refine gX5_15 (pc := 46) C hT dX5_stone_46 ?_
  refine l2 (pc := 49) C hT dX5_stone_49 ?_
  refine kX5_74 (pc := 50) C (c_X5_isIn l D _ _ _) dX5_stone_50 (Nat.le_of_ble_eq_true rfl) (by decide) ?_
  rintro _ _ ⟨rfl, rfl⟩
  refine r_if_ne_b (pc := 53) C (tgt := 66) dX5_stone_53 (by decide) (fun c_53 => ?_) (fun c_53 => ?_)
  · have hlt : nr < 40 := by
      have q := c_53.2
      rw [hr3] at q
      exact (nI_ltI (by omega) (by decide)).mp q
    obtain ⟨a, ha4, ha⟩ := hI.2.2.2.2.2.2.2.2 b hb
    refine r_aload0 (pc := 66) C dX5_stone_66 ?_
    refine gX5_89 (pc := 67) C hT dX5_stone_67 ?_
    rw [hr3]
    refine r_istore6 (pc := 70) C dX5_stone_70 ?_
    refine r_aload0 (pc := 72) C dX5_stone_72 ?_
    refine r_iload1 (pc := 73) C dX5_stone_73 ?_
    refine kX5_94 (pc := 74) C (c_X5_pitOf l D _ _ _ hT (b := b) (by omega)) (hT.f (by decide)) rfl dX5_stone_74 (Nat.le_of_ble_eq_true rfl) (by decide) ?_
    rintro _ _ ⟨rfl, rfl⟩
    rw [ha]
    refine r_istore7 (pc := 77) C dX5_stone_77 ?_
    refine r_aload0 (pc := 79) C dX5_stone_79 ?_
    refine gX5_15 (pc := 80) C hT dX5_stone_80 ?_
    refine r_iload6 (pc := 83) C dX5_stone_83 ?_
    obtain ⟨t1, t2, hT2⟩ := nuR_T hT hlt
    refine r_new (pc := 85) C inU3 (ci := 3) (t := 100 + nr) (fs := [.int 0, .int 0, .int 0, .int 0, .int 0, .int 0, .int 0, .null, .int 0, .int 0, .int 0, .int 0]) rfl tyX3 tyX3_ok kl_RX5_13 ia_L3 iz_L3 (fun j hj => by
        rcases j with _ | _ | _ | _ | _ | _ | _ | _ | _ | _ | _ | _ | j <;> first | rfl | omega) t1 (by decide) dX5_stone_85 (fun q => ?_)
    refine r_dup (pc := 88) C dX5_stone_88 rfl ?_
    refine r_iload6 (pc := 89) C dX5_stone_89 ?_
    refine r_iload1 (pc := 91) C dX5_stone_91 ?_
    refine r_iload7 (pc := 92) C dX5_stone_92 ?_
    refine r_iload2 (pc := 94) C dX5_stone_94 ?_
    refine r_iload3 (pc := 95) C dX5_stone_95 ?_
    refine r_iload4 (pc := 96) C dX5_stone_96 ?_
    refine r_iload5 (pc := 98) C dX5_stone_98 ?_
    refine V_st (st2 := [.int x5, .int x4, .int x3, .int x2, .int (nI a), .int (nI b), .int (nI nr), .ref (au ad (100 + nr) q (100 + nr)), .ref q, .int (nI nr), .ref (ad 2)]) (by rw [au_eq]) ?_
    refine kX5_98x (pc := 100) C (c_X3_init l D _ _ _ (t := 100 + nr) (u := 150 + nr) (List.mem_append_right _ List.mem_cons_self) t2 rfl _ _ _ _ _ _ _) dX5_stone_100 (Nat.le_of_ble_eq_true rfl) (by decide) (fun _ h => h.elim) (fun h => h.elim (fun _ z => z.elim)) ?_
    rintro _ ⟨z, rfl⟩
    refine r_cg (ad2 := (au (au ad (100 + nr) q) (150 + nr) z)) (g := cO D (au (au ad (100 + nr) q) (150 + nr) z) (nuR σ nr (nI b) (nI a) x2 x3 x4 x5)) (fun _ _ => rfl) (nuR_w hT hz hI.2.2.2.2.2.2.1 hlt) ?_
    obtain ⟨ad2, h2e⟩ : ∃ y, y = (au (au ad (100 + nr) q) (150 + nr) z) := ⟨_, rfl⟩
    have had : ∀ k, k ∈ T → ad2 k = ad k := fun k hk => by
      rw [h2e, au_ne (ne_in t2 (List.mem_append_left _ hk)), au_ne (ne_in t1 hk)]
    have hq : ad2 (100 + nr) = q := by rw [h2e, au_ne (by omega), au_eq]
    rw [← h2e, ← hq, ← had 2 (hT.f (by decide)), ← had 0 (hT.f (by decide))]
    refine b2 (pc := 103) C hT2 (i := nr) (by omega) rfl dX5_stone_103 ?_
    refine r_aload0 (pc := 104) C dX5_stone_104 ?_
    refine r_dup (pc := 105) C dX5_stone_105 rfl ?_
    refine gX5_89 (pc := 106) C hT2 dX5_stone_106 ?_
    refine r_iconst (pc := 109) C (v := 1) dX5_stone_109 (by decide) ?_
    refine r_iadd (pc := 110) C dX5_stone_110 ?_
    rw [show (up (nuR σ nr (nI b) (nI a) x2 x3 x4 x5) 2 nr 1) 0 3 + 1 = nI (nr + 1) by rw [show (up (nuR σ nr (nI b) (nI a) x2 x3 x4 x5) 2 nr 1) 0 3 = σ 0 3 from rfl, hr3]; exact nI_1 nr]
    refine pX5_89 (pc := 111) C hT2 dX5_stone_111 ?_
    refine r_aload0 (pc := 114) C dX5_stone_114 ?_
    refine gX5_54 (pc := 115) C hT2 dX5_stone_115 ?_
    refine r_iload7 (pc := 118) C dX5_stone_118 ?_
    refine r_iload2 (pc := 120) C dX5_stone_120 ?_
    refine kX5_101 (pc := 121) C (c_X5_addTo l D _ _ _ (hT2.f (k := 13) (by decide)) rfl (by decide) (b := a) ha4 _) dX5_stone_121 (Nat.le_of_ble_eq_true rfl) (by decide) ?_
    rintro _ rfl
    refine V_c (S2 := (_, ad2, cO D ad2 (stC σ nr b a x2 x3 x4 x5))) (congrArg (fun z => (_, _, z)) (funext (fun q => (u_13 q).symm))) rfl ?_
    refine r_iload6 (pc := 124) C dX5_stone_124 ?_
    exact r_iret C rfl dX5_stone_126 (⟨_, ad2, b, a, ⟨hb, rfl, ha4, ha, ⟨h2, h3, h4, h5⟩, hlt⟩, hT2, had, rfl, rfl⟩) (by decide) (by decide)
  · exact r_thr_ISE C hfl (List.mem_of_getElem? (i := 12) rfl) dX5_stone_56 dX5_stone_59 dX5_stone_60 dX5_stone_62 dX5_stone_65 ⟨by decide, Nat.le_of_ble_eq_true rfl, by decide, by decide, by decide, by decide⟩ (Or.inr (Or.inr ⟨rfl, h1, ⟨h2, h3, h4, h5⟩, fun q => c_53 (by rw [hr3]; exact ⟨nI_pos' (by omega), nI_lt q (by decide)⟩)⟩)) rfl

noncomputable def gemW (τ : Mm) (i c : Nat) : Int32 := nI c * τ 23 i / 12 * 60 / 100
noncomputable def gemC (τ : Mm) (n i k c : Nat) : Mm := up (up (up (nuG τ n (τ 20 i) (τ 25 i) (τ 22 i) (τ 29 i) (nI k) (nI c) (gemW τ i c)) 11 n 1) 0 12 (nI (n + 1))) 0 13 (τ 0 13 - gemW τ i c)
noncomputable def cgC (σ : Mm) (g i : Nat) : Nat → Mm
  | 0 => up σ 0 13 (σ 0 13 + σ 23 i)
  | k + 1 => iF (0 < plN (σ 26 i) k) (gemC (cgC σ g i k) (g + pcN (σ 26 i) k) i k (plN (σ 26 i) k)) (cgC σ g i k)
noncomputable def cutC (σ : Mm) (g i : Nat) : Mm := endT (up (cgC σ g i 12) 28 i 3) i
theorem gemC_r (τ : Mm) (n i k c : Nat) {r : Nat} (h0 : r ≠ 0) (h1 : r ≠ 11) (h2 : r < 40 ∨ 60 ≤ r) : gemC τ n i k c r = τ r := by
  unfold gemC
  rw [up_ne h0, up_ne h0, up_ne h1, nuG_r τ h2]
theorem cgC_r (σ : Mm) (g i : Nat) {r : Nat} (h0 : r ≠ 0) (h1 : r ≠ 11) (h2 : r < 40 ∨ 60 ≤ r) : ∀ k, cgC σ g i k r = σ r
  | 0 => up_ne h0
  | k + 1 => iF_row (by rw [gemC_r _ _ _ _ _ h0 h1 h2]; exact cgC_r σ g i h0 h1 h2 k) (cgC_r σ g i h0 h1 h2 k)
theorem pcN_le (fl : Int32) : ∀ k, pcN fl k ≤ pcN fl (k + 1) := fun k => by
  rcases iF_or (P := 0 < plN fl k) (a := pcN fl k + 1) (b := pcN fl k) with h | h <;> rw [pcN, h] <;> omega
theorem pcN_mono (fl : Int32) {a : Nat} : ∀ b, a ≤ b → pcN fl a ≤ pcN fl b
  | 0, h => by rw [show a = 0 by omega]; exact Nat.le_refl _
  | b + 1, h => by
    rcases (show a = b + 1 ∨ a ≤ b by omega) with q | q
    · rw [q]; exact Nat.le_refl _
    · exact Nat.le_trans (pcN_mono fl b q) (pcN_le fl b)
theorem cgC_z {nr g : Nat} {σ : Mm} {i : Nat} (hz : HZ nr g σ) (h12 : σ 0 12 = nI g) : ∀ k, HZ nr (g + pcN (σ 26 i) k) (cgC σ g i k) ∧ cgC σ g i k 0 12 = nI (g + pcN (σ 26 i) k)
  | 0 => ⟨hz, h12⟩
  | k + 1 => by
    obtain ⟨h1, h2⟩ := cgC_z (i := i) hz h12 k
    by_cases q : 0 < plN (σ 26 i) k
    · rw [cgC, iF_t q, pcN, iF_t q]
      refine ⟨⟨fun j hj => ?_, fun j hj => ?_⟩, rfl⟩
      · show cgC σ g i k 2 j = 0
        exact h1.1 j hj
      · show upd (cgC σ g i k 11) (g + pcN (σ 26 i) k) 1 j = 0
        unfold upd
        rw [if_neg (by omega)]
        exact h1.2 j (by omega)
    · rw [cgC, iF_f q, pcN, iF_f q]
      exact ⟨h1, h2⟩
theorem pcN_12 (fl : Int32) : pcN fl 12 ≤ 12 := by
  have : ∀ k, pcN fl k ≤ k := fun k => by
    induction k with
    | zero => exact Nat.le_refl 0
    | succ k ih => rcases iF_or (P := 0 < plN fl k) (a := pcN fl k + 1) (b := pcN fl k) with h | h <;> rw [pcN, h] <;> omega
  exact this 12
set_option maxRecDepth 100000 in
set_option maxHeartbeats 4000000 in
theorem c_X5_cut (l : Launch) (D : Gt) (hfl : l.stackTraces = false) (T : List Nat) (ad : Nat → Nat) (σ : Mm) {nr ng np nb : Nat} (hT : TG nr ng T) (hI : IC nr ng np nb σ) (hz : HZ nr ng σ) (x : Int32) : KI D l yX5_cut (uws yX5_cut cX5_cut 6 (some .int)) (RM 9 40 400) [.ref (ad 0), .int x] (T, ad, cO D ad σ) (fun r S1 => ∃ (T2 : List Nat) (ad2 : Nat → Nat) (i0 : Nat), (i0 < nr ∧ x = nI i0 ∧ (¬ σ 28 i0 = 1 ∧ ¬ σ 28 i0 = 3) ∧ ng + pcN (σ 26 i0) 12 ≤ 80) ∧ TG nr (ng + pcN (σ 26 i0) 12) T2 ∧ (∀ k, k ∈ T → ad2 k = ad k) ∧ r = nI (pcN (σ 26 i0) 12) ∧ S1 = (T2, ad2, cO D ad2 (cutC σ ng i0))) (fun E => (E = sIOB ∧ ¬ (0 ≤ x ∧ x < nI nr)) ∨ (E = sISE ∧ (0 ≤ x ∧ x < nI nr) ∧ ∃ i0, i0 < nr ∧ x = nI i0 ∧ ¬ ((¬ σ 28 i0 = 1 ∧ ¬ σ 28 i0 = 3) ∧ ng + pcN (σ 26 i0) 12 ≤ 80))) 40 400 := by
  refine KI_of (own := RX5) (L0 := [some (.ref (ad 0)), some (.int x), none, none, none, none]) (by decide +kernel) rfl (catc rfl (catc rfl cat0)) (Nat.le_of_ble_eq_true rfl) rfl ?_
  intro p e s m args below meth c A hnm C
  have h40 := hT.1
  have h80 := hT.2.1
  have hT0 := hT
  have h12 := hI.2.2.2.2.1
  refine r_aload0 (pc := 0) C dX5_cut_0 ?_
  refine r_iload1 (pc := 1) C dX5_cut_1 ?_
  refine kX5_105x (pc := 2) C (c_X5_knownStone l D hfl _ _ _ hT hI.1 _) (hT.f (by decide)) rfl dX5_cut_2 (Nat.le_of_ble_eq_true rfl) (by decide) (fun E h => Or.inl h) (fun _ => rfl) ?_
  rintro _ _ ⟨i, hi, rfl, rfl, rfl⟩
  have h_i : 0 ≤ nI i ∧ nI i < nI nr := ⟨nI_pos' (by have := hT.1; omega), nI_lt (by omega) (by have := hT.1; omega)⟩
  refine r_astore2 (pc := 5) C dX5_cut_5 ?_
  refine r_aload2 (pc := 6) C dX5_cut_6 ?_
  refine gX5_109 (pc := 7) C hT (by assumption) dX5_cut_7 ?_
  refine r_iconst (pc := 10) C (v := 1) dX5_cut_10 (by decide) ?_
  refine r_icmp_eq (pc := 11) C (tgt := 22) dX5_cut_11 (by decide) (fun c_11 => ?_) (fun c_11 => ?_)
  · exact r_thr_ISE C hfl (List.mem_of_getElem? (i := 6) rfl) dX5_cut_22 dX5_cut_25 dX5_cut_26 dX5_cut_28 dX5_cut_31 ⟨by decide, Nat.le_of_ble_eq_true rfl, by decide, by decide, by decide, by decide⟩ (Or.inr ⟨rfl, h_i, i, hi, rfl, fun q => by first | exact q.1.1 (by assumption) | exact q.1.2 (by assumption)⟩) rfl
  · refine r_aload2 (pc := 14) C dX5_cut_14 ?_
    refine gX5_109 (pc := 15) C hT (by assumption) dX5_cut_15 ?_
    refine r_iconst (pc := 18) C (v := 3) dX5_cut_18 (by decide) ?_
    refine r_icmp_ne (pc := 19) C (tgt := 32) dX5_cut_19 (by decide) (fun c_19 => ?_) (fun c_19 => ?_)
    · refine r_aload2 (pc := 32) C dX5_cut_32 ?_
      refine gX5_235 (pc := 33) C hT (by assumption) dX5_cut_33 ?_
      refine kX5_251 (pc := 36) C (c_X5_plannedCount l D _ _) dX5_cut_36 (Nat.le_of_ble_eq_true rfl) (by decide) ?_
      rintro _ _ ⟨rfl, rfl⟩
      refine r_istore3 (pc := 39) C dX5_cut_39 ?_
      refine r_aload0 (pc := 40) C dX5_cut_40 ?_
      refine gX5_254 (pc := 41) C hT dX5_cut_41 ?_
      refine r_iload3 (pc := 44) C dX5_cut_44 ?_
      rw [h12]
      refine r_iadd (pc := 45) C dX5_cut_45 ?_
      rw [show nI ng + nI (pcN (σ 26 i) 12) = nI (ng + pcN (σ 26 i) 12) from nI_add _ _]
      refine r_bipush (pc := 46) C (v := 80) dX5_cut_46 (by decide) ?_
      refine r_icmp_le (pc := 48) C (tgt := 62) dX5_cut_48 (by decide) (fun c_48 => ?_) (fun c_48 => ?_)
      · have hst : ¬ σ 28 i = 1 ∧ ¬ σ 28 i = 3 := ⟨by assumption, by assumption⟩
        have hle : ng + pcN (σ 26 i) 12 ≤ 80 := (nI_leI (b := 80) (by have := pcN_12 (σ 26 i); omega) (by decide)).mp c_48
        refine r_aload0 (pc := 62) C dX5_cut_62 ?_
        refine r_dup (pc := 63) C dX5_cut_63 rfl ?_
        refine gX5_259 (pc := 64) C hT dX5_cut_64 ?_
        refine r_aload2 (pc := 67) C dX5_cut_67 ?_
        refine gX5_262 (pc := 68) C hT (by assumption) dX5_cut_68 ?_
        refine r_iadd (pc := 71) C dX5_cut_71 ?_
        refine pX5_259 (pc := 72) C hT dX5_cut_72 ?_
        refine r_iconst (pc := 75) C (v := 0) dX5_cut_75 (by decide) ?_
        refine r_istore4 (pc := 76) C dX5_cut_76 ?_
        have loop : ∀ (z k : Nat) (T2 : List Nat) (ad2 : Nat → Nat) (x5 : Option Value), TG nr (ng + pcN (σ 26 i) k) T2 → (∀ j, j ∈ T → ad2 j = ad j) → k ≤ 12 → 12 < k + z → V D A 6 (T2, ad2, cO D ad2 (cgC σ ng i k)) p l e (RM 9 40 400) s m args below meth c (1 + 2 * k) (6 + 14 * k) (vx_MQ below (va_Qi (fun r S1 => ∃ (T2 : List Nat) (ad2 : Nat → Nat) (i0 : Nat), (i0 < nr ∧ nI i = nI i0 ∧ (¬ σ 28 i0 = 1 ∧ ¬ σ 28 i0 = 3) ∧ ng + pcN (σ 26 i0) 12 ≤ 80) ∧ TG nr (ng + pcN (σ 26 i0) 12) T2 ∧ (∀ k, k ∈ T → ad2 k = ad k) ∧ r = nI (pcN (σ 26 i0) 12) ∧ S1 = (T2, ad2, cO D ad2 (cutC σ ng i0))) (PoB D A) A) (XCs D (T, ad, cO D ad σ) A (fun E => (E = sIOB ∧ ¬ (0 ≤ nI i ∧ nI i < nI nr)) ∨ (E = sISE ∧ (0 ≤ nI i ∧ nI i < nI nr) ∧ ∃ i0, i0 < nr ∧ nI i = nI i0 ∧ ¬ ((¬ σ 28 i0 = 1 ∧ ¬ σ 28 i0 = 3) ∧ ng + pcN (σ 26 i0) 12 ≤ 80)))) args s 40 400 A) 78 [some (.ref (ad2 0)), some (.int (nI i)), some (.ref (ad2 (100 + i))), some (.int (nI (pcN (σ 26 i) 12))), some (.int (nI k)), x5] [] := by
          intro z
          induction z with
          | zero => intro k T2 ad2 x5 hT had h1 h2; omega
          | succ z ih =>
            intro k T2 ad2 x5 hT had h1 h2
            have hk : nI k + 1 = nI (k + 1) := nI_1 k
            have hTm : ∀ j, j ∈ T → j ∈ T2 := TG_sub hT0 hT (Nat.le_refl _) (Nat.le_add_right _ _)
            refine r_iload4 (pc := 78) C dX5_cut_78 ?_
            refine r_bipush (pc := 80) C (v := nI 12) dX5_cut_80 (by decide) ?_
            refine r_icmp_geN (pc := 82) C (tgt := 123) dX5_cut_82 (by decide) (by omega) (by omega) (fun c_82 => ?_) (fun c_82 => ?_)
            · have hk12 : k = 12 := by omega
              subst hk12
              refine r_aload2 (pc := 123) C dX5_cut_123 ?_
              refine r_iconst (pc := 124) C (v := 3) dX5_cut_124 (by decide) ?_
              refine pX5_109 (pc := 125) C hT (by assumption) dX5_cut_125 ?_
              refine r_aload0 (pc := 128) C dX5_cut_128 ?_
              refine r_aload2 (pc := 129) C dX5_cut_129 ?_
              refine kX5_272 (pc := 130) C (c_X5_endTenderOf l D _ _ _ hT hi (tOK_cg (by rw [up_ne (by decide)]; exact cgC_r σ ng i (by decide) (by decide) (by decide) 12) hI.2.2.2.2.2.2.1)) (hT.f (by decide)) rfl dX5_cut_130 (Nat.le_of_ble_eq_true rfl) (by decide) ?_
              rintro _ rfl
              refine r_iload3 (pc := 133) C dX5_cut_133 ?_
              exact r_iret C rfl dX5_cut_134 (⟨T2, ad2, i, ⟨hi, rfl, hst, hle⟩, hT, had, rfl, rfl⟩) (by decide) (by decide)
            · refine r_aload2 (pc := 85) C dX5_cut_85 ?_
              refine gX5_235 (pc := 86) C hT (by assumption) dX5_cut_86 ?_
              refine r_iload4 (pc := 89) C dX5_cut_89 ?_
              rw [cgC_r σ ng i (r := 26) (by decide) (by decide) (by decide) k]
              refine kX5_238 (pc := 91) C (c_X5_plannedAt l D _ _ (by omega)) dX5_cut_91 (Nat.le_of_ble_eq_true rfl) ⟨⟨rfl, rfl⟩, by decide, by show 1 + 2 * k ≤ 40; omega, by show 6 + 14 * k ≤ 400; omega⟩ ?_
              rintro _ _ ⟨rfl, rfl⟩
              refine r_istore5 (pc := 94) C dX5_cut_94 ?_
              refine r_iload5 (pc := 96) C dX5_cut_96 ?_
              refine r_if_le (pc := 98) C (tgt := 117) dX5_cut_98 (by decide) (fun c_98 => ?_) (fun c_98 => ?_)
              · have hp0 : ¬ 0 < plN (σ 26 i) k := fun e => by
                  have e1 : (0 : Int32) < nI (plN (σ 26 i) k) := nI_lt (a := 0) e (by have := plN_le (σ 26 i) k (by omega); omega)
                  exact absurd c_98 (Int32.not_le.mpr e1)
                have hpc1 : pcN (σ 26 i) (k + 1) = pcN (σ 26 i) k := iF_f hp0
                have hcs : cgC σ ng i (k + 1) = cgC σ ng i k := iF_f hp0
                rw [← hcs]
                refine r_iinc4 (pc := 117) C dX5_cut_117 hk ?_
                refine r_goto (pc := 120) C (tgt := 78) dX5_cut_120 (by decide) ?_
                exact r_wid (k := 1 + 2 * (k + 1)) (z := 6 + 14 * (k + 1)) (by omega) (by omega) (ih (k + 1) _ ad2 _ (by rw [hpc1]; exact hT) had (by omega) (by omega))
              · have hpos : 0 < plN (σ 26 i) k := Nat.pos_of_ne_zero (fun e => c_98 (by rw [e]; decide))
                obtain ⟨n0, hn0⟩ : ∃ y, y = ng + pcN (σ 26 i) k := ⟨_, rfl⟩
                have hpc1 : pcN (σ 26 i) (k + 1) = pcN (σ 26 i) k + 1 := iF_t hpos
                have hpm := pcN_mono (σ 26 i) (a := k + 1) 12 (by omega)
                have hg80 : n0 < 80 := by omega
                obtain ⟨hzk, h12k⟩ := cgC_z (i := i) hz h12 k
                rw [← hn0] at hzk h12k hT
                have htk : tOK nr (cgC σ ng i k) := tOK_cg (cgC_r σ ng i (by decide) (by decide) (by decide) k) hI.2.2.2.2.2.2.1
                obtain ⟨t1, t2, hT3⟩ := nuG_T hT hg80
                have hcs : cgC σ ng i (k + 1) = gemC (cgC σ ng i k) n0 i k (plN (σ 26 i) k) := by rw [hn0]; exact iF_t hpos
                obtain ⟨τ, hτ⟩ : ∃ y, y = cgC σ ng i k := ⟨_, rfl⟩
                rw [← hτ] at hzk h12k htk hcs ⊢
                refine r_aload0 (pc := 101) C dX5_cut_101 ?_
                refine r_new (pc := 102) C inU0 (ci := 0) (t := 200 + n0) (fs := [.int 0, .int 0, .int 0, .int 0, .int 0, .int 0, .null, .int 0, .int 0]) rfl tyX0 tyX0_ok kl_RX5_45 ia_L0 iz_L0 (fun j hj => by
                    rcases j with _ | _ | _ | _ | _ | _ | _ | _ | _ | j <;> first | rfl | omega) t1 ⟨by show 1 + 2 * k + 1 ≤ 40; omega, by show 6 + 14 * k + 9 ≤ 400; omega⟩ dX5_cut_102 (fun q => ?_)
                refine r_dup (pc := 105) C dX5_cut_105 rfl ?_
                refine r_aload2 (pc := 106) C dX5_cut_106 ?_
                refine r_iload4 (pc := 107) C dX5_cut_107 ?_
                refine r_iload5 (pc := 109) C dX5_cut_109 ?_
                refine V_st (st2 := [.int (nI (plN (σ 26 i) k)), .int (nI k), .ref (ad2 (100 + i)), .ref (au ad2 (200 + n0) q (200 + n0)), .ref q, .ref (ad2 0)]) (by rw [au_eq]) ?_
                have hri := hT.r hi
                refine kX5_265x (pc := 111) C (c_X0_init l D _ _ _ (t := 200 + n0) (u := 300 + n0) (r := 100 + i) (List.mem_append_right _ List.mem_cons_self) t2 rfl (List.mem_append_left _ hri) (ne_in t1 hri) (au_ne (ne_in t1 hri)) (cO_ro hT hi) _ _) dX5_cut_111 (Nat.le_of_ble_eq_true rfl) ⟨⟨rfl, rfl⟩, by decide, ⟨by show 1 + 2 * k + 1 + 1 ≤ 40; omega, by show 6 + 14 * k + 9 + 5 ≤ 400; omega⟩, by omega, by omega⟩ (fun _ h => h.elim) (fun h => h.elim (fun _ z => z.elim)) ?_
                rintro _ ⟨z, rfl⟩
                refine r_cg (ad2 := (au (au ad2 (200 + n0) q) (300 + n0) z)) (g := cO D (au (au ad2 (200 + n0) q) (300 + n0) z) (nuG τ n0 (τ 20 i) (τ 25 i) (τ 22 i) (τ 29 i) (nI k) (nI (plN (σ 26 i) k)) (gemW τ i (plN (σ 26 i) k)))) (fun _ _ => rfl) (nuG_w hT hzk htk hg80) ?_
                obtain ⟨ad3, h3e⟩ : ∃ y, y = (au (au ad2 (200 + n0) q) (300 + n0) z) := ⟨_, rfl⟩
                have had3 : ∀ j, j ∈ T2 → ad3 j = ad2 j := fun j hj => by
                  rw [h3e, au_ne (ne_in t2 (List.mem_append_left _ hj)), au_ne (ne_in t1 hj)]
                have hq : ad3 (200 + n0) = q := by rw [h3e, au_ne (by omega), au_eq]
                rw [← h3e, ← hq, ← had3 (100 + i) hri, ← had3 0 (hT.f (by decide))]
                refine kX5_268 (pc := 114) C (c_X5_keepGem l D _ _ _ hT3 (g := n0) (by omega) (by show τ 0 12 = _; exact h12k)) (hT3.f (by decide)) rfl dX5_cut_114 (Nat.le_of_ble_eq_true rfl) ⟨⟨rfl, rfl⟩, by decide, by show 1 + 2 * k + 1 + 1 ≤ 40; omega, by show 6 + 14 * k + 9 + 5 ≤ 400; omega⟩ ?_
                rintro _ rfl
                refine V_c (S2 := (_, ad3, cO D ad3 (cgC σ ng i (k + 1)))) (congrArg (fun z => (_, _, cO D ad3 z)) ?_) rfl ?_
                · rw [hcs]
                  unfold gemC
                  rw [show (nuG τ n0 (τ 20 i) (τ 25 i) (τ 22 i) (τ 29 i) (nI k) (nI (plN (σ 26 i) k)) (gemW τ i (plN (σ 26 i) k))) 0 13 = τ 0 13 from rfl, show (nuG τ n0 (τ 20 i) (τ 25 i) (τ 22 i) (τ 29 i) (nI k) (nI (plN (σ 26 i) k)) (gemW τ i (plN (σ 26 i) k))) 47 n0 = gemW τ i (plN (σ 26 i) k) by unfold nuG; simp [up_at]]
                refine r_iinc4 (pc := 117) C dX5_cut_117 hk ?_
                refine r_goto (pc := 120) C (tgt := 78) dX5_cut_120 (by decide) ?_
                exact r_wid (k := 1 + 2 * (k + 1)) (z := 6 + 14 * (k + 1)) (by omega) (by omega) (ih (k + 1) _ ad3 _ (by rw [hpc1, ← Nat.add_assoc, ← hn0]; exact hT3) (fun j hj => (had3 j (hTm j hj)).trans (had j hj)) (by omega) (by omega))
        exact loop 13 0 T ad _ hT (fun _ _ => rfl) (by omega) (by omega)
      · have hle : ¬ ng + pcN (σ 26 i) 12 ≤ 80 := fun q => c_48 ((nI_leI (b := 80) (by have := pcN_12 (σ 26 i); omega) (by decide)).mpr q)
        exact r_thrW_ISE C hfl (List.mem_of_getElem? (i := 7) rfl) dX5_cut_51 dX5_cut_54 dX5_cut_55 dX5_cut_58 dX5_cut_61 ⟨by decide, Nat.le_of_ble_eq_true rfl, by decide, by decide, by decide, by decide⟩ (Or.inr ⟨rfl, h_i, i, hi, rfl, fun q => hle q.2⟩) rfl
    · exact r_thr_ISE C hfl (List.mem_of_getElem? (i := 6) rfl) dX5_cut_22 dX5_cut_25 dX5_cut_26 dX5_cut_28 dX5_cut_31 ⟨by decide, Nat.le_of_ble_eq_true rfl, by decide, by decide, by decide, by decide⟩ (Or.inr ⟨rfl, h_i, i, hi, rfl, fun q => by first | exact q.1.1 (by assumption) | exact q.1.2 (by assumption)⟩) rfl


noncomputable def obM (σ : Mm) : Nat → Mm
  | 0 => σ
  | k + 1 => iF (obM σ k 69 k = 1) (up (up (obM σ k) 69 k 0) 71 k (-1)) (obM σ k)
theorem obM_r (σ : Mm) {r : Nat} (h1 : r ≠ 69) (h2 : r ≠ 71) : ∀ k, obM σ k r = σ r
  | 0 => rfl
  | k + 1 => iF_row (by rw [up_ne h2, up_ne h1]; exact obM_r σ h1 h2 k) (obM_r σ h1 h2 k)
def fl3 (σ : Mm) (k : Nat) : Mm := upR (upR (upR σ 79 (fillF (σ 79) 0 k)) 80 (fillF (σ 80) 0 k)) 81 (fillF (σ 81) (-1) k)
theorem fl3_0 (σ : Mm) : fl3 σ 0 = σ := by
  unfold fl3
  rw [show fillF (σ 79) 0 0 = σ 79 from fillF_0, show fillF (σ 80) 0 0 = σ 80 from fillF_0, show fillF (σ 81) (-1) 0 = σ 81 from fillF_0]
  funext r
  by_cases h1 : r = 81
  · subst h1; rw [upR_eq]
  · rw [upR_ne h1]
    by_cases h2 : r = 80
    · subst h2; rw [upR_eq]
    · rw [upR_ne h2]
      by_cases h3 : r = 79
      · subst h3; rw [upR_eq]
      · rw [upR_ne h3]
theorem fl3_s (σ : Mm) (k : Nat) : up (up (up (fl3 σ k) 79 k 0) 80 k 0) 81 k (-1) = fl3 σ (k + 1) := by
  funext r
  by_cases h1 : r = 81
  · subst h1
    rw [up_eq, up_ne (by decide), up_ne (by decide)]
    show upd (fillF (σ 81) (-1) k) k (-1) = fillF (σ 81) (-1) (k + 1)
    exact fillF_s
  · rw [up_ne h1]
    by_cases h2 : r = 80
    · subst h2
      rw [up_eq, up_ne (by decide)]
      show upd (fillF (σ 80) 0 k) k 0 = fillF (σ 80) 0 (k + 1)
      exact fillF_s
    · rw [up_ne h2]
      by_cases h3 : r = 79
      · subst h3
        rw [up_eq]
        show upd (fillF (σ 79) 0 k) k 0 = fillF (σ 79) 0 (k + 1)
        exact fillF_s
      · rw [up_ne h3]
        unfold fl3
        rw [upR_ne h1, upR_ne h2, upR_ne h3, upR_ne h1, upR_ne h2, upR_ne h3]
theorem fl3_r (σ : Mm) (k : Nat) {r : Nat} (h1 : r ≠ 79) (h2 : r ≠ 80) (h3 : r ≠ 81) : fl3 σ k r = σ r := by
  unfold fl3
  rw [upR_ne h3, upR_ne h2, upR_ne h1]
noncomputable def opMm (σ : Mm) (nr : Nat) (x : Int32) : Mm := fl3 (up (obM σ nr) 60 18 x) 5
noncomputable def pbM (σ : Mm) : Nat → Nat
  | 0 => 0
  | k + 1 => iF (σ 79 (k + 1) < σ 79 (pbM σ k)) (k + 1) (pbM σ k)
theorem pbM_le (σ : Mm) : ∀ k, pbM σ k ≤ k
  | 0 => Nat.le_refl 0
  | k + 1 => by
    have h := pbM_le σ k
    rcases iF_or (P := σ 79 (k + 1) < σ 79 (pbM σ k)) (a := k + 1) (b := pbM σ k) with g | g
    · exact Nat.le_of_eq g
    · rw [pbM, g]; omega
noncomputable def stepM (σ : Mm) (m s : Nat) : Mm := endM (up (up (up σ 79 (pbM σ (m - 1)) (σ 79 (pbM σ (m - 1)) + valM σ s)) 69 s 1) 71 s (nI (pbM σ (m - 1)))) s
noncomputable def fiM (nr m : Nat) : Nat → Mm → Mm
  | 0, σ => σ
  | f + 1, σ => iF (deM σ nr = -1) σ (fiM nr m f (stepM σ m (deM σ nr).toNatClampNeg))
noncomputable def fiN (nr m : Nat) : Nat → Mm → Nat
  | 0, _ => 0
  | f + 1, σ => iF (deM σ nr = -1) 0 (fiN nr m f (stepM σ m (deM σ nr).toNatClampNeg) + 1)
theorem fiM_n {nr m : Nat} {σ : Mm} (h : deM σ nr = -1) : ∀ f, fiM nr m f σ = σ
  | 0 => rfl
  | f + 1 => iF_t h
theorem fiN_n {nr m : Nat} {σ : Mm} (h : deM σ nr = -1) : ∀ f, fiN nr m f σ = 0
  | 0 => rfl
  | f + 1 => iF_t h
theorem stepM_r (σ : Mm) (m s : Nat) {r : Nat} (h1 : r ≠ 79) (h2 : r ≠ 69) (h3 : r ≠ 71) (h4 : r ≠ 60) : stepM σ m s r = σ r := by
  unfold stepM endM
  rw [up_ne h4, up_ne h3, up_ne h2, up_ne h1]
theorem stepM_0 (σ : Mm) (m s : Nat) {j : Nat} (h : j ≠ 23) : stepM σ m s 60 j = σ 60 j := by
  unfold stepM endM
  rw [up_nj h]
  rfl
noncomputable def ofM (σ : Mm) (nb : Nat) : Nat → Mm
  | 0 => σ
  | k + 1 => up (ofM σ nb k) 81 k (fsF (fun b => nI (bxM (ofM σ nb k) b nb) = nI (rkM (ofM σ nb k) k 5)) nb)
theorem ofM_r (σ : Mm) (nb : Nat) {r : Nat} (h : r ≠ 81) : ∀ k, ofM σ nb k r = σ r
  | 0 => rfl
  | k + 1 => by rw [ofM, up_ne h]; exact ofM_r σ nb h k
/-- how many of the first n stones are HERE -/
noncomputable def hcM (σ : Mm) : Nat → Nat
  | 0 => 0
  | k + 1 => iF (σ 69 k = 0) (hcM σ k + 1) (hcM σ k)
theorem hcM_le (σ : Mm) : ∀ k, hcM σ k ≤ k
  | 0 => Nat.le_refl 0
  | k + 1 => by
    have h := hcM_le σ k
    rcases iF_or (P := σ 69 k = 0) (a := hcM σ k + 1) (b := hcM σ k) with g | g <;> rw [hcM, g] <;> omega
theorem hcM_cg {σ τ : Mm} : ∀ k, (∀ j, j < k → τ 69 j = σ 69 j) → hcM τ k = hcM σ k
  | 0, _ => rfl
  | k + 1, h => by
    have h1 := hcM_cg k (fun j hj => h j (by omega))
    rw [hcM, hcM, h1, h k (by omega)]
theorem hcM_dn {σ τ : Mm} {s : Nat} (h0 : σ 69 s = 0) (h1 : τ 69 s = 1) (hj : ∀ j, j ≠ s → τ 69 j = σ 69 j) : ∀ k, s < k → hcM τ k + 1 = hcM σ k
  | 0, h => absurd h (by omega)
  | k + 1, h => by
    by_cases e : s = k
    · subst e
      rw [hcM, hcM, iF_t h0, iF_f (by rw [h1]; decide), hcM_cg s (fun j hj2 => hj j (by omega))]
    · have h2 := hcM_dn h0 h1 hj k (by omega)
      rw [hcM, hcM, hj k (Ne.symm e)]
      by_cases q : σ 69 k = 0
      · rw [iF_t q, iF_t q]; omega
      · rw [iF_f q, iF_f q]; exact h2
theorem deM_can (σ : Mm) : ∀ k j, deM σ k = nI j → j < 2 ^ 31 → k < 2 ^ 31 → canM σ j
  | 0, j, h, hj, _ => absurd h.symm (nI_nem1 hj)
  | k + 1, j, h, hj, hk => by
    by_cases q : canM σ k ∧ (deM σ k = -1 ∨ valM σ (deM σ k).toNatClampNeg < valM σ k)
    · rw [deM, iF_t q] at h
      have e : k = j := by
        have h9 := congrArg Int32.toInt h
        rw [nI_toInt (by omega), nI_toInt hj] at h9
        omega
      rw [← e]; exact q.1
    · rw [deM, iF_f q] at h
      exact deM_can σ k j h hj (by omega)
theorem hcM_0 {σ : Mm} : ∀ k, hcM σ k = 0 → deM σ k = -1
  | 0, _ => rfl
  | k + 1, h => by
    by_cases q : σ 69 k = 0
    · rw [hcM, iF_t q] at h; omega
    · rw [hcM, iF_f q] at h
      rw [deM, iF_f (fun z => q z.1.1)]
      exact hcM_0 k h
set_option maxRecDepth 100000 in
set_option maxHeartbeats 1000000 in
theorem c_X6_boxes (l : Launch) (D : Gt) (T : List Nat) (ad : Nat → Nat) (σ : Mm) {nr ng : Nat} (hT : TG nr ng T) {np nb : Nat} (hM : ML nr ng np nb σ) (x : Int32) : KI D l yX6_boxes (uws yX6_boxes cX6_boxes 6 (some .int)) (RM 7 0 0) [.ref (ad 400), .int x] (T, ad, cO D ad σ) (fun r S1 => ((cd1 (1 ≤ x ∧ x ≤ 5)) = 0 → r = nI (fiN nr x.toNatClampNeg 40 (opMm (up σ 60 0 0) nr x)) ∧ S1 = (T, ad, cO D ad (ofM (fiM nr x.toNatClampNeg 40 (opMm (up σ 60 0 0) nr x)) x.toNatClampNeg 5))) ∧ (¬ (cd1 (1 ≤ x ∧ x ≤ 5)) = 0 → r = 0 ∧ S1 = (T, ad, cO D ad (up σ 60 0 (cd1 (1 ≤ x ∧ x ≤ 5)))))) (nX) 0 0 := by
  refine KI_of (own := RX6) (L0 := [some (.ref (ad 400)), some (.int x), none, none, none, none]) (by decide +kernel) rfl (catc rfl (catc rfl cat0)) (Nat.le_of_ble_eq_true rfl) rfl ?_
  intro p e s m args below meth c A hnm C
  have hS := hM
  obtain ⟨hm1, hm3, hm26, hm18, hnp, hnr, hng, hnb5, hb, hsc, hlc, hpa, hro, hof, hte⟩ := hM
  refine r_aload0 (pc := 0) C dX6_boxes_0 ?_
  refine r_iload1 (pc := 1) C dX6_boxes_1 ?_
  refine r_iconst (pc := 2) C (v := 1) dX6_boxes_2 (by decide) ?_
  refine r_iconst (pc := 3) C (v := 5) dX6_boxes_3 (by decide) ?_
  refine kX6_114 (pc := 4) C (c_X6_in l D _ _ _ _) dX6_boxes_4 (Nat.le_of_ble_eq_true rfl) (by decide) ?_
  rintro _ _ ⟨rfl, rfl⟩
  refine kX6_148 (pc := 7) C (ask1 l D _ _ _ hT (1 ≤ x ∧ x ≤ 5) (rfl)) (hT.f (by decide)) rfl dX6_boxes_7 (Nat.le_of_ble_eq_true rfl) (by decide) ?_
  rintro _ _ ⟨rfl, rfl⟩
  refine r_if_ne_b (pc := 10) C (tgt := 15) dX6_boxes_10 (by decide) (fun c_10 => ?_) (fun c_10 => ?_)
  · have hok : (cd1 (1 ≤ x ∧ x ≤ 5)) = 0 := cd1_t c_10
    rw [hok]
    obtain ⟨τ, hτ⟩ : ∃ τ, up σ 60 0 0 = τ := ⟨_, rfl⟩
    rw [hτ]
    obtain ⟨hm1, hm3, hm26, hm18, hnp, hnr, hng, hnb5, hb, hsc, hlc, hpa, hro, hof, hte⟩ := (hτ ▸ ML_up 0 hS : ML nr ng np nb τ)
    have hP := c_10
    obtain ⟨mB, hm1b, hm5, rfl⟩ := rg_of (a := 1) (b := 5) (by decide) hP
    rw [nI_clamp (by omega)]
    refine r_iconst (pc := 15) C (v := nI 0) dX6_boxes_15 (by decide) ?_
    refine r_istore2 (pc := 16) C dX6_boxes_16 ?_
    have hb74o : ∀ j, bd18 ((fl3 (up (obM τ nr) 60 18 (nI mB)) 5) 74 j) := fun j => by rw [fl3_r _ _ (by decide) (by decide) (by decide), up_ne (by decide), obM_r τ (by decide) (by decide) nr]; exact hb j
    have h603o : (fl3 (up (obM τ nr) 60 18 (nI mB)) 5) 60 3 = nI nr := by rw [fl3_r _ _ (by decide) (by decide) (by decide), up_nj (by decide), obM_r τ (by decide) (by decide) nr]; exact hm3
    have h18o : (fl3 (up (obM τ nr) 60 18 (nI mB)) 5) 60 18 = nI mB := by rw [fl3_r _ _ (by decide) (by decide) (by decide)]; exact up_self
    have loop4x : ∀ (ρ : Mm) (cn : Nat) (x4 x5 : Option Value), ρ 60 18 = nI mB → cn = fiN nr mB 40 (opMm τ nr (nI mB)) → ρ = fiM nr mB 40 (opMm τ nr (nI mB)) → V D A 6 (T, ad, cO D ad (ρ)) p l e (RM 7 0 0) s m args below meth c 0 0 (vx_MQ below (va_Qi (fun r S1 => ((0 : Int32) = 0 → r = nI (fiN nr mB 40 (opMm τ nr (nI mB))) ∧ S1 = (T, ad, cO D ad (ofM (fiM nr mB 40 (opMm τ nr (nI mB))) mB 5))) ∧ (¬ (0 : Int32) = 0 → r = 0 ∧ S1 = (T, ad, cO D ad (τ)))) (PoB D A) A) (XCs D (T, ad, cO D ad σ) A (nX)) args s 0 0 A) 198 [some (.ref (ad 400)), some (.int (nI mB)), some (.int (nI cn)), some (.int (nI 0)), x4, x5] [] := by
      intro ρ cn x4 x5 h18 hcn hρ
      have loop4 : ∀ (z k : Nat), k ≤ 5 → 5 < k + z → V D A 6 (T, ad, cO D ad (ofM ρ mB k)) p l e (RM 7 0 0) s m args below meth c 0 0 (vx_MQ below (va_Qi (fun r S1 => ((0 : Int32) = 0 → r = nI (fiN nr mB 40 (opMm τ nr (nI mB))) ∧ S1 = (T, ad, cO D ad (ofM (fiM nr mB 40 (opMm τ nr (nI mB))) mB 5))) ∧ (¬ (0 : Int32) = 0 → r = 0 ∧ S1 = (T, ad, cO D ad (τ)))) (PoB D A) A) (XCs D (T, ad, cO D ad σ) A (nX)) args s 0 0 A) 198 [some (.ref (ad 400)), some (.int (nI mB)), some (.int (nI cn)), some (.int (nI k)), x4, x5] [] := by
        intro z
        induction z with
        | zero => intro k h1 h2; omega
        | succ z ih =>
          intro k h1 h2
          have hk : nI k + 1 = nI (k + 1) := nI_1 k
          refine r_iload3 (pc := 198) C dX6_boxes_198 ?_
          refine r_iconst (pc := 199) C (v := nI 5) dX6_boxes_199 (by decide) ?_
          refine r_icmp_geN (pc := 200) C (tgt := 224) dX6_boxes_200 (by decide) (by omega) (by omega) (fun c_200 => ?_) (fun c_200 => ?_)
          · refine r_iload2 (pc := 224) C dX6_boxes_224 ?_
            exact r_iret C rfl dX6_boxes_225 (⟨fun _ => ⟨by rw [hcn], by rw [show k = 5 by omega, hρ]⟩, fun q => absurd rfl q⟩) (by decide) (by decide)
          · refine r_aload0 (pc := 203) C dX6_boxes_203 ?_
            refine gX6_62 (pc := 204) C hT dX6_boxes_204 ?_
            refine r_iload3 (pc := 207) C dX6_boxes_207 ?_
            refine r_aload0 (pc := 208) C dX6_boxes_208 ?_
            refine r_aload0 (pc := 209) C dX6_boxes_209 ?_
            refine r_iload3 (pc := 210) C dX6_boxes_210 ?_
            refine kX6_168 (pc := 211) C (c_X6_rankOf l D _ _ _ hT (b := k) (by omega)) (hT.f (by decide)) rfl dX6_boxes_211 (Nat.le_of_ble_eq_true rfl) (by decide) ?_
            rintro _ _ ⟨rfl, rfl⟩
            refine kX6_171 (pc := 214) C (c_X6_boxAt l D _ _ _ hT (nb := mB) (by rw [ofM_r _ _ (by decide)]; exact h18) hm5 _) (hT.f (by decide)) rfl dX6_boxes_214 (Nat.le_of_ble_eq_true rfl) (by decide) ?_
            rintro _ _ ⟨rfl, rfl⟩
            refine b421 (pc := 217) C hT rfl (by omega) dX6_boxes_217 ?_
            refine r_iinc3 (pc := 218) C dX6_boxes_218 hk ?_
            refine r_goto (pc := 221) C (tgt := 198) dX6_boxes_221 (by decide) ?_
            exact ih (k + 1) (by omega) (by omega)
      exact loop4 6 0 (by omega) (by omega)
    have loop3 : ∀ (f : Nat) (ρ : Mm) (cn : Nat) (x4 x5 : Option Value), (∀ j, bd18 (ρ 74 j)) → ρ 60 3 = nI nr → ρ 60 18 = nI mB → hcM ρ nr ≤ f → cn + fiN nr mB f ρ = fiN nr mB 40 (opMm τ nr (nI mB)) → fiM nr mB f ρ = fiM nr mB 40 (opMm τ nr (nI mB)) → V D A 6 (T, ad, cO D ad (ρ)) p l e (RM 7 0 0) s m args below meth c 0 0 (vx_MQ below (va_Qi (fun r S1 => ((0 : Int32) = 0 → r = nI (fiN nr mB 40 (opMm τ nr (nI mB))) ∧ S1 = (T, ad, cO D ad (ofM (fiM nr mB 40 (opMm τ nr (nI mB))) mB 5))) ∧ (¬ (0 : Int32) = 0 → r = 0 ∧ S1 = (T, ad, cO D ad (τ)))) (PoB D A) A) (XCs D (T, ad, cO D ad σ) A (nX)) args s 0 0 A) 101 [some (.ref (ad 400)), some (.int (nI mB)), some (.int (nI cn)), some (.int (deM ρ nr)), x4, x5] [] := by
      intro f
      induction f with
      | zero =>
        intro ρ cn x4 x5 hb74 h603 h18 hh hcn hfi
        have c_103 := hcM_0 nr (Nat.le_zero.mp hh)
        rw [c_103]
        refine r_iload3 (pc := 101) C dX6_boxes_101 ?_
        refine r_iconst (pc := 102) C (v := (-1)) dX6_boxes_102 (by decide) ?_
        refine r_icmp_eq (pc := 103) C (tgt := 196) dX6_boxes_103 (by decide) (fun _ => ?_) (fun q => absurd rfl q)
        refine r_iconst (pc := 196) C (v := nI 0) dX6_boxes_196 (by decide) ?_
        refine r_istore3 (pc := 197) C dX6_boxes_197 ?_
        exact loop4x ρ cn _ _ h18 (by rw [← hcn, fiN_n c_103]; rfl) (by rw [← hfi, fiM_n c_103])
      | succ f ih =>
        intro ρ cn x4 x5 hb74 h603 h18 hh hcn hfi
        refine r_iload3 (pc := 101) C dX6_boxes_101 ?_
        refine r_iconst (pc := 102) C (v := (-1)) dX6_boxes_102 (by decide) ?_
        refine r_icmp_eq (pc := 103) C (tgt := 196) dX6_boxes_103 (by decide) (fun c_103 => ?_) (fun c_103 => ?_)
        · refine r_iconst (pc := 196) C (v := nI 0) dX6_boxes_196 (by decide) ?_
          refine r_istore3 (pc := 197) C dX6_boxes_197 ?_
          exact loop4x ρ cn _ _ h18 (by rw [← hcn, fiN_n c_103]; rfl) (by rw [← hfi, fiM_n c_103])
        · obtain ⟨sB, hs, hde⟩ := (deM_ix ρ nr).resolve_left c_103
          have hne : ¬ deM ρ nr = -1 := c_103
          have hcan := deM_can ρ nr sB hde (by omega) (by omega)
          rw [hde]
          have inner : ∀ (zb k : Nat), k + 1 ≤ mB → mB < k + 1 + zb → V D A 6 (T, ad, cO D ad (ρ)) p l e (RM 7 0 0) s m args below meth c 0 0 (vx_MQ below (va_Qi (fun r S1 => ((0 : Int32) = 0 → r = nI (fiN nr mB 40 (opMm τ nr (nI mB))) ∧ S1 = (T, ad, cO D ad (ofM (fiM nr mB 40 (opMm τ nr (nI mB))) mB 5))) ∧ (¬ (0 : Int32) = 0 → r = 0 ∧ S1 = (T, ad, cO D ad (τ)))) (PoB D A) A) (XCs D (T, ad, cO D ad σ) A (nX)) args s 0 0 A) 112 [some (.ref (ad 400)), some (.int (nI mB)), some (.int (nI cn)), some (.int (nI sB)), some (.int (nI (pbM ρ k))), some (.int (nI (k + 1)))] [] := by
            intro zb
            induction zb with
            | zero => intro k g1 g2; omega
            | succ zb ihb =>
              intro k g1 g2
              have hk2 : nI (k + 1) + 1 = nI (k + 1 + 1) := nI_1 (k + 1)
              refine r_iload5 (pc := 112) C dX6_boxes_112 ?_
              refine r_iload1 (pc := 114) C dX6_boxes_114 ?_
              refine r_icmp_geN (pc := 115) C (tgt := 150) dX6_boxes_115 (by decide) (by omega) (by omega) (fun c_115 => ?_) (fun c_115 => ?_)
              · have hkm : k = mB - 1 := by omega
                subst hkm
                have hpb := pbM_le ρ (mB - 1)
                refine r_aload0 (pc := 150) C dX6_boxes_150 ?_
                refine gX6_55 (pc := 151) C hT dX6_boxes_151 ?_
                refine r_iload4 (pc := 154) C dX6_boxes_154 ?_
                refine r_dup2 (pc := 156) C dX6_boxes_156 rfl rfl ?_
                refine a419 (pc := 157) C hT rfl (by omega) dX6_boxes_157 ?_
                refine r_aload0 (pc := 158) C dX6_boxes_158 ?_
                refine r_iload3 (pc := 159) C dX6_boxes_159 ?_
                refine kX6_151 (pc := 160) C (c_X6_valueOf l D _ _ _ hT (by omega) hb74) (hT.f (by decide)) rfl dX6_boxes_160 (Nat.le_of_ble_eq_true rfl) (by decide) ?_
                rintro _ _ ⟨rfl, rfl⟩
                refine r_iadd (pc := 163) C dX6_boxes_163 ?_
                refine b419 (pc := 164) C hT rfl (by omega) dX6_boxes_164 ?_
                refine r_aload0 (pc := 165) C dX6_boxes_165 ?_
                refine gX6_28 (pc := 166) C hT dX6_boxes_166 ?_
                refine r_iload3 (pc := 169) C dX6_boxes_169 ?_
                refine r_iconst (pc := 170) C (v := 1) dX6_boxes_170 (by decide) ?_
                refine b409 (pc := 171) C hT rfl (by omega) dX6_boxes_171 ?_
                refine r_aload0 (pc := 172) C dX6_boxes_172 ?_
                refine gX6_34 (pc := 173) C hT dX6_boxes_173 ?_
                refine r_iload3 (pc := 176) C dX6_boxes_176 ?_
                refine r_iload4 (pc := 177) C dX6_boxes_177 ?_
                refine b411 (pc := 179) C hT rfl (by omega) dX6_boxes_179 ?_
                refine r_aload0 (pc := 180) C dX6_boxes_180 ?_
                refine r_iload3 (pc := 181) C dX6_boxes_181 ?_
                refine kX6_164 (pc := 182) C (c_X6_ends l D _ _ _ hT _) (hT.f (by decide)) rfl dX6_boxes_182 (Nat.le_of_ble_eq_true rfl) (by decide) ?_
                rintro _ rfl
                refine V_c (S2 := (T, ad, cO D ad (stepM ρ mB sB))) rfl rfl ?_
                refine r_iinc2 (pc := 185) C dX6_boxes_185 (nI_1 cn) ?_
                refine r_aload0 (pc := 188) C dX6_boxes_188 ?_
                refine kX6_160 (pc := 189) C (c_X6_nextStone l D _ _ (stepM ρ mB sB) hT (nr := nr) (fun j => by rw [stepM_r ρ mB sB (by decide) (by decide) (by decide) (by decide)]; exact hb74 j) (by rw [stepM_0 ρ mB sB (by decide)]; exact h603)) (hT.f (by decide)) rfl dX6_boxes_189 (Nat.le_of_ble_eq_true rfl) (by decide) ?_
                rintro _ _ ⟨rfl, rfl⟩
                refine r_istore3 (pc := 192) C dX6_boxes_192 ?_
                refine r_goto (pc := 193) C (tgt := 101) dX6_boxes_193 (by decide) ?_
                exact ih (stepM ρ mB sB) (cn + 1) _ _ (fun j => by rw [stepM_r ρ mB sB (by decide) (by decide) (by decide) (by decide)]; exact hb74 j) (by rw [stepM_0 ρ mB sB (by decide)]; exact h603) (by rw [stepM_0 ρ mB sB (by decide)]; exact h18) (by have := hcM_dn (σ := ρ) (τ := stepM ρ mB sB) hcan.1 (by unfold stepM endM; rw [up_ne (by decide), up_ne (by decide), up_self]) (fun j hj => by unfold stepM endM; rw [up_ne (by decide), up_ne (by decide), up_nj hj]; rfl) nr (by omega); omega) (by rw [← hcn, fiN, iF_f hne, hde, nI_clamp (by omega)]; omega) (by rw [← hfi, fiM, iF_f hne, hde, nI_clamp (by omega)])
              · refine r_aload0 (pc := 118) C dX6_boxes_118 ?_
                refine gX6_55 (pc := 119) C hT dX6_boxes_119 ?_
                refine r_iload5 (pc := 122) C dX6_boxes_122 ?_
                refine a419 (pc := 124) C hT rfl (by omega) dX6_boxes_124 ?_
                refine r_aload0 (pc := 125) C dX6_boxes_125 ?_
                refine gX6_55 (pc := 126) C hT dX6_boxes_126 ?_
                refine r_iload4 (pc := 129) C dX6_boxes_129 ?_
                refine a419 (pc := 131) C hT rfl (by have := pbM_le ρ k; omega) dX6_boxes_131 ?_
                refine r_icmp_ge (pc := 132) C (tgt := 140) dX6_boxes_132 (by decide) (fun c_132 => ?_) (fun c_132 => ?_)
                · refine r_iload4 (pc := 140) C dX6_boxes_140 ?_
                  refine r_istore4 (pc := 142) C dX6_boxes_142 ?_
                  refine r_iinc5 (pc := 144) C dX6_boxes_144 hk2 ?_
                  refine r_goto (pc := 147) C (tgt := 112) dX6_boxes_147 (by decide) ?_
                  first
                  | (have e1 : pbM ρ (k + 1) = k + 1 := iF_t (Int32.not_le.mp c_132)
                     have h3 := ihb (k + 1); rw [e1] at h3; exact h3 (by omega) (by omega))
                  | (have e1 : pbM ρ (k + 1) = pbM ρ k := iF_f (fun h => absurd c_132 (Int32.not_le.mpr h))
                     have h3 := ihb (k + 1); rw [e1] at h3; exact h3 (by omega) (by omega))
                · refine r_iload5 (pc := 135) C dX6_boxes_135 ?_
                  refine r_goto (pc := 137) C (tgt := 142) dX6_boxes_137 (by decide) ?_
                  refine r_istore4 (pc := 142) C dX6_boxes_142 ?_
                  refine r_iinc5 (pc := 144) C dX6_boxes_144 hk2 ?_
                  refine r_goto (pc := 147) C (tgt := 112) dX6_boxes_147 (by decide) ?_
                  first
                  | (have e1 : pbM ρ (k + 1) = k + 1 := iF_t (Int32.not_le.mp c_132)
                     have h3 := ihb (k + 1); rw [e1] at h3; exact h3 (by omega) (by omega))
                  | (have e1 : pbM ρ (k + 1) = pbM ρ k := iF_f (fun h => absurd c_132 (Int32.not_le.mpr h))
                     have h3 := ihb (k + 1); rw [e1] at h3; exact h3 (by omega) (by omega))
          refine r_iconst (pc := 106) C (v := nI 0) dX6_boxes_106 (by decide) ?_
          refine r_istore4 (pc := 107) C dX6_boxes_107 ?_
          refine r_iconst (pc := 109) C (v := nI (0 + 1)) dX6_boxes_109 (by decide) ?_
          refine r_istore5 (pc := 110) C dX6_boxes_110 ?_
          exact inner (mB + 1) 0 (by omega) (by omega)
    have loop2 : ∀ (z k : Nat) (x3 x4 x5 : Option Value), k ≤ 5 → 5 < k + z → V D A 6 (T, ad, cO D ad (fl3 (up (obM τ nr) 60 18 (nI mB)) k)) p l e (RM 7 0 0) s m args below meth c 0 0 (vx_MQ below (va_Qi (fun r S1 => ((0 : Int32) = 0 → r = nI (fiN nr mB 40 (opMm τ nr (nI mB))) ∧ S1 = (T, ad, cO D ad (ofM (fiM nr mB 40 (opMm τ nr (nI mB))) mB 5))) ∧ (¬ (0 : Int32) = 0 → r = 0 ∧ S1 = (T, ad, cO D ad (τ)))) (PoB D A) A) (XCs D (T, ad, cO D ad σ) A (nX)) args s 0 0 A) 62 [some (.ref (ad 400)), some (.int (nI mB)), some (.int (nI k)), x3, x4, x5] [] := by
      intro z
      induction z with
      | zero => intro k x3 x4 x5 h1 h2; omega
      | succ z ih =>
        intro k x3 x4 x5 h1 h2
        have hk : nI k + 1 = nI (k + 1) := nI_1 k
        refine r_iload2 (pc := 62) C dX6_boxes_62 ?_
        refine r_iconst (pc := 63) C (v := nI 5) dX6_boxes_63 (by decide) ?_
        refine r_icmp_geN (pc := 64) C (tgt := 94) dX6_boxes_64 (by decide) (by omega) (by omega) (fun c_64 => ?_) (fun c_64 => ?_)
        · have hk5 : k = 5 := by omega
          rw [hk5]
          refine r_iconst (pc := 94) C (v := nI 0) dX6_boxes_94 (by decide) ?_
          refine r_istore2 (pc := 95) C dX6_boxes_95 ?_
          refine r_aload0 (pc := 96) C dX6_boxes_96 ?_
          refine kX6_160 (pc := 97) C (c_X6_nextStone l D _ _ (fl3 (up (obM τ nr) 60 18 (nI mB)) 5) hT (nr := nr) hb74o h603o) (hT.f (by decide)) rfl dX6_boxes_97 (Nat.le_of_ble_eq_true rfl) (by decide) ?_
          rintro _ _ ⟨rfl, rfl⟩
          refine r_istore3 (pc := 100) C dX6_boxes_100 ?_
          exact loop3 40 _ 0 _ _ hb74o h603o h18o (Nat.le_trans (hcM_le _ _) hnr) (Nat.zero_add _) rfl
        · refine r_aload0 (pc := 67) C dX6_boxes_67 ?_
          refine gX6_55 (pc := 68) C hT dX6_boxes_68 ?_
          refine r_iload2 (pc := 71) C dX6_boxes_71 ?_
          refine r_iconst (pc := 72) C (v := 0) dX6_boxes_72 (by decide) ?_
          refine b419 (pc := 73) C hT rfl (by omega) dX6_boxes_73 ?_
          refine r_aload0 (pc := 74) C dX6_boxes_74 ?_
          refine gX6_58 (pc := 75) C hT dX6_boxes_75 ?_
          refine r_iload2 (pc := 78) C dX6_boxes_78 ?_
          refine r_iconst (pc := 79) C (v := 0) dX6_boxes_79 (by decide) ?_
          refine b420 (pc := 80) C hT (k := k) (Or.inl rfl) rfl (by omega) dX6_boxes_80 ?_
          refine r_aload0 (pc := 81) C dX6_boxes_81 ?_
          refine gX6_62 (pc := 82) C hT dX6_boxes_82 ?_
          refine r_iload2 (pc := 85) C dX6_boxes_85 ?_
          refine r_iconst (pc := 86) C (v := (-1)) dX6_boxes_86 (by decide) ?_
          refine b421 (pc := 87) C hT rfl (by omega) dX6_boxes_87 ?_
          rw [fl3_s]
          refine r_iinc2 (pc := 88) C dX6_boxes_88 hk ?_
          refine r_goto (pc := 91) C (tgt := 62) dX6_boxes_91 (by decide) ?_
          exact ih (k + 1) _ _ _ (by omega) (by omega)
    have loop1 : ∀ (z k : Nat) (x3 x4 x5 : Option Value), k ≤ nr → nr < k + z → V D A 6 (T, ad, cO D ad (obM τ k)) p l e (RM 7 0 0) s m args below meth c 0 0 (vx_MQ below (va_Qi (fun r S1 => ((0 : Int32) = 0 → r = nI (fiN nr mB 40 (opMm τ nr (nI mB))) ∧ S1 = (T, ad, cO D ad (ofM (fiM nr mB 40 (opMm τ nr (nI mB))) mB 5))) ∧ (¬ (0 : Int32) = 0 → r = 0 ∧ S1 = (T, ad, cO D ad (τ)))) (PoB D A) A) (XCs D (T, ad, cO D ad σ) A (nX)) args s 0 0 A) 17 [some (.ref (ad 400)), some (.int (nI mB)), some (.int (nI k)), x3, x4, x5] [] := by
      intro z
      induction z with
      | zero => intro k x3 x4 x5 h1 h2; omega
      | succ z ih =>
        intro k x3 x4 x5 h1 h2
        have hk : nI k + 1 = nI (k + 1) := nI_1 k
        refine r_iload2 (pc := 17) C dX6_boxes_17 ?_
        refine r_aload0 (pc := 18) C dX6_boxes_18 ?_
        refine gX6_111 (pc := 19) C hT dX6_boxes_19 ?_
        rw [obM_r τ (r := 60) (by decide) (by decide) k, hm3]
        refine r_icmp_geN (pc := 22) C (tgt := 55) dX6_boxes_22 (by decide) (by omega) (by omega) (fun c_22 => ?_) (fun c_22 => ?_)
        · refine r_aload0 (pc := 55) C dX6_boxes_55 ?_
          refine r_iload1 (pc := 56) C dX6_boxes_56 ?_
          refine pX6_157 (pc := 57) C hT dX6_boxes_57 ?_
          refine r_iconst (pc := 60) C (v := nI 0) dX6_boxes_60 (by decide) ?_
          refine r_istore2 (pc := 61) C dX6_boxes_61 ?_
          have hkn : k = nr := by omega
          rw [hkn, ← fl3_0 (up (obM τ nr) 60 18 (nI mB))]
          exact loop2 6 0 _ _ _ (by omega) (by omega)
        · refine r_aload0 (pc := 25) C dX6_boxes_25 ?_
          refine gX6_28 (pc := 26) C hT dX6_boxes_26 ?_
          refine r_iload2 (pc := 29) C dX6_boxes_29 ?_
          refine a409 (pc := 30) C hT rfl (by omega) dX6_boxes_30 ?_
          refine r_iconst (pc := 31) C (v := 1) dX6_boxes_31 (by decide) ?_
          refine r_icmp_ne (pc := 32) C (tgt := 49) dX6_boxes_32 (by decide) (fun c_32 => ?_) (fun c_32 => ?_)
          · refine r_iinc2 (pc := 49) C dX6_boxes_49 hk ?_
            refine r_goto (pc := 52) C (tgt := 17) dX6_boxes_52 (by decide) ?_
            first
            | (have e1 : obM τ (k + 1) = up (up (obM τ k) 69 k 0) 71 k (-1) := iF_t c_32
               have h3 := ih (k + 1) x3 x4 x5; rw [e1] at h3; exact h3 (by omega) (by omega))
            | (have e1 : obM τ (k + 1) = obM τ k := iF_f c_32
               have h3 := ih (k + 1) x3 x4 x5; rw [e1] at h3; exact h3 (by omega) (by omega))
          · refine r_aload0 (pc := 35) C dX6_boxes_35 ?_
            refine gX6_28 (pc := 36) C hT dX6_boxes_36 ?_
            refine r_iload2 (pc := 39) C dX6_boxes_39 ?_
            refine r_iconst (pc := 40) C (v := 0) dX6_boxes_40 (by decide) ?_
            refine b409 (pc := 41) C hT rfl (by omega) dX6_boxes_41 ?_
            refine r_aload0 (pc := 42) C dX6_boxes_42 ?_
            refine gX6_34 (pc := 43) C hT dX6_boxes_43 ?_
            refine r_iload2 (pc := 46) C dX6_boxes_46 ?_
            refine r_iconst (pc := 47) C (v := (-1)) dX6_boxes_47 (by decide) ?_
            refine b411 (pc := 48) C hT rfl (by omega) dX6_boxes_48 ?_
            refine r_iinc2 (pc := 49) C dX6_boxes_49 hk ?_
            refine r_goto (pc := 52) C (tgt := 17) dX6_boxes_52 (by decide) ?_
            first
            | (have e1 : obM τ (k + 1) = up (up (obM τ k) 69 k 0) 71 k (-1) := iF_t c_32
               have h3 := ih (k + 1) x3 x4 x5; rw [e1] at h3; exact h3 (by omega) (by omega))
            | (have e1 : obM τ (k + 1) = obM τ k := iF_f c_32
               have h3 := ih (k + 1) x3 x4 x5; rw [e1] at h3; exact h3 (by omega) (by omega))
    exact loop1 (nr + 1) 0 _ _ _ (by omega) (by omega)
  · have hno : ¬ (cd1 (1 ≤ x ∧ x ≤ 5)) = 0 := cd1_f (by assumption)
    refine r_iconst (pc := 13) C (v := 0) dX6_boxes_13 (by decide) ?_
    exact r_iret C rfl dX6_boxes_14 (by first | exact ⟨fun q => absurd q hno, fun _ => ⟨rfl, rfl⟩⟩ | exact ⟨fun _ => ⟨rfl, rfl⟩, fun q => absurd rfl q⟩) (by decide) (by decide)


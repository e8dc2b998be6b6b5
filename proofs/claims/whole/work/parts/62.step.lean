set_option maxRecDepth 10000 in
set_option maxHeartbeats 1000000 in
theorem S_parcel {nr ng np nb : Nat} {σ σ2 : Mm} {ov : Int32} (x : Int32) (hI : INV nr ng np nb σ) (hp : (∃ j, j < 4 ∧ x = nI j) ∧ np < 12 ∧ ov = nI np ∧ σ2 = (up (up σ 1 np x) 0 1 (nI (np + 1)))) : (ML nr ng np nb (up σ2 99 0 ov)) ∧ cd2 (0 ≤ x ∧ x ≤ 3) ((up σ2 99 0 ov) 60 1 < 12) = 0 ∧ ov = nI np ∧ (up (up (up (up σ2 99 0 ov) 60 0 0) 62 np x) 60 1 (nI (np + 1))) 60 0 = 0 ∧ (up (up (up (up σ2 99 0 ov) 60 0 0) 62 np x) 60 1 (nI (np + 1))) 99 0 = ov ∧ INV nr ng (np + 1) nb (up (up (up (up σ2 99 0 ov) 60 0 0) 62 np x) 60 1 (nI (np + 1))) := by
  have hI0 := hI
  obtain ⟨hIC, hHZ, hML, hRA, hRB, hRC, hRD1, hRD2, hRE1, hRE2, hRF, hRG, hRH⟩ := hI
  have hRA2 := hRA
  obtain ⟨a1, a21, a23, a24, a25, a26, a28, a29, a30, a31, a32, a33, a3, a5, a8, a7, a6, a10, a40, a47, a44, a45, a43, a48, a50, a51, a12, a14⟩ := hRA2
  have hML2 := hML
  obtain ⟨hm1, hm3, hm26, hm18, hnp, hnr, hng, hnb5, hb, hsc, hlc, hpa, hro, hof, hte⟩ := hML2
  have hIC2 := hIC
  obtain ⟨i1, i2, ⟨i3, i4⟩, i5, i6, ⟨i7, i8⟩, i9, i10, i11⟩ := hIC2
  obtain ⟨⟨j, hj, rfl⟩, hlt, rfl, rfl⟩ := hp
  have hpt : ∀ s, s < nr → upd (σ 62) np (nI j) (σ 64 s).toNatClampNeg = σ 62 (σ 64 s).toNatClampNeg := fun s hs => by
    obtain ⟨a, ha, hp2⟩ := hpa s hs
    rw [hp2, nI_clamp (by omega)]
    exact pk_un (by omega)
  have hD2 : ∀ p, p < ng → upd (σ 62) np (nI j) (σ 64 (σ 87 p).toNatClampNeg).toNatClampNeg = orgM σ p := fun p hp => by
    obtain ⟨q, hq, hq2⟩ := hro p hp
    rw [hpt _ (by rw [hq2, nI_clamp (by omega)]; exact hq)]
    rfl
  refine ⟨hML, cd2_t ⟨⟨(nI_rg hj (by omega)).1, (leL (a := 3) (b := nI 4) (by decide)).mpr (nI_rg hj (by omega)).2⟩, ?_⟩, rfl, rfl, rfl, ?_⟩
  · show σ 60 1 < 12
    rw [hm1]; exact nI_lt (b := 12) hlt (by decide)
  · exact ⟨⟨i1, i2, ⟨rfl, hlt⟩, i5, i6, ⟨i7, i8⟩, i9, i10, fun i hi => by
      by_cases e : i = np
      · subst e; exact ⟨j, hj, pk_us⟩
      · obtain ⟨a, h1, h2⟩ := i11 i (by omega)
        exact ⟨a, h1, (pk_un e).trans h2⟩⟩, hHZ, ⟨rfl, hm3, hm26, hm18, hlt, hnr, hng, hnb5, hb, hsc, hlc, fun s hs => (hpa s hs).imp (fun a h => ⟨by omega, h.2⟩), hro, hof, hte⟩, ⟨(congrArg (fun g => upd g np (nI j)) a1), a21, a23, a24, a25, a26, a28, a29, a30, a31, a32, a33, a3, a5, a8, a7, a6, a10, a40, a47, a44, a45, a43, a48, a50, a51, a12, a14⟩, hRB, hRC, fun i hi => ⟨(hRD1 i hi).1, (hRD1 i hi).2.1.trans (hpt i hi).symm, (hRD1 i hi).2.2⟩, fun p hp => ⟨(hRD2 p hp).1, (hRD2 p hp).2.1.trans (hD2 p hp).symm, (hRD2 p hp).2.2⟩, hRE1, hRE2, hRF, hRG, fun q hq => by
      have e := cmM_cg2 (σ := σ) (τ := up (up (up (up (up (up σ 1 np (nI j)) 0 1 (nI (np + 1))) 99 0 (nI np)) 60 0 0) 62 np (nI j)) 60 1 (nI (np + 1))) (fun _ => rfl) (nI q) nr (fun s hs => hpt s hs)
      rw [e]; exact hRH q hq⟩
theorem E_parcel {nr ng np nb : Nat} {σ : Mm} (x : Int32) (hI : INV nr ng np nb σ) : ((fun E : String => (E = sIOB ∧ ¬ (0 ≤ x ∧ x < 4)) ∨ (E = sISE ∧ (0 ≤ x ∧ x < 4) ∧ ¬ np < 12)) sIOB → cd2 (0 ≤ x ∧ x ≤ 3) (σ 60 1 < 12) = 1) ∧ ((fun E : String => (E = sIOB ∧ ¬ (0 ≤ x ∧ x < 4)) ∨ (E = sISE ∧ (0 ≤ x ∧ x < 4) ∧ ¬ np < 12)) sISE → cd2 (0 ≤ x ∧ x ≤ 3) (σ 60 1 < 12) = 2) := by
  have hI0 := hI
  obtain ⟨hIC, hHZ, hML, hRA, hRB, hRC, hRD1, hRD2, hRE1, hRE2, hRF, hRG, hRH⟩ := hI
  have hRA2 := hRA
  obtain ⟨a1, a21, a23, a24, a25, a26, a28, a29, a30, a31, a32, a33, a3, a5, a8, a7, a6, a10, a40, a47, a44, a45, a43, a48, a50, a51, a12, a14⟩ := hRA2
  have hML2 := hML
  obtain ⟨hm1, hm3, hm26, hm18, hnp, hnr, hng, hnb5, hb, hsc, hlc, hpa, hro, hof, hte⟩ := hML2
  have hIC2 := hIC
  obtain ⟨i1, i2, ⟨i3, i4⟩, i5, i6, ⟨i7, i8⟩, i9, i10, i11⟩ := hIC2
  refine ⟨fun h => ?_, fun h => ?_⟩
  · rcases h with ⟨_, h1⟩ | ⟨h, _⟩
    · exact cd2_1 (fun z => h1 ⟨z.1, (leL (a := 3) (b := 4) (by decide)).mp z.2⟩)
    · exact absurd h (by decide)
  · rcases h with ⟨h, _⟩ | ⟨_, h1, h2⟩
    · exact absurd h (by decide)
    · exact cd2_2 ⟨h1.1, (leL (a := 3) (b := 4) (by decide)).mpr h1.2⟩ (fun z => h2 (by rw [hm1] at z; exact (nI_ltI (b := 12) (by omega) (by decide)).mp z))
set_option maxRecDepth 10000 in
set_option maxHeartbeats 1000000 in
theorem S_stone {nr ng np nb : Nat} {σ σ2 : Mm} {ov : Int32} (x1 x2 x3 x4 x5 : Int32) (hI : INV nr ng np nb σ) (hp : ∃ (b a : Nat), (b < np ∧ x1 = nI b ∧ a < 4 ∧ σ 1 b = nI a ∧ ((12 ≤ x2 ∧ x2 ≤ 9999) ∧ (0 ≤ x3 ∧ x3 ≤ 9) ∧ (0 ≤ x4 ∧ x4 ≤ 9) ∧ (0 ≤ x5 ∧ x5 ≤ 4095)) ∧ nr < 40) ∧ ov = nI nr ∧ σ2 = (stC σ nr b a x2 x3 x4 x5)) : (ML nr ng np nb (up σ2 99 0 ov)) ∧ cd3 (0 ≤ x1 ∧ x1 < nI np) ((12 ≤ x2 ∧ x2 ≤ 9999) ∧ (0 ≤ x3 ∧ x3 ≤ 9) ∧ (0 ≤ x4 ∧ x4 ≤ 9) ∧ (0 ≤ x5 ∧ x5 ≤ 4095)) ((up σ2 99 0 ov) 60 3 < 40) = 0 ∧ ov = nI nr ∧ (stM (up (up σ2 99 0 ov) 60 0 0) nr x1 x2 x3 x4 x5) 60 0 = 0 ∧ (stM (up (up σ2 99 0 ov) 60 0 0) nr x1 x2 x3 x4 x5) 99 0 = ov ∧ INV (nr + 1) ng np nb (stM (up (up σ2 99 0 ov) 60 0 0) nr x1 x2 x3 x4 x5) := by
  have hI0 := hI
  obtain ⟨hIC, hHZ, hML, hRA, hRB, hRC, hRD1, hRD2, hRE1, hRE2, hRF, hRG, hRH⟩ := hI
  have hRA2 := hRA
  obtain ⟨a1, a21, a23, a24, a25, a26, a28, a29, a30, a31, a32, a33, a3, a5, a8, a7, a6, a10, a40, a47, a44, a45, a43, a48, a50, a51, a12, a14⟩ := hRA2
  have hML2 := hML
  obtain ⟨hm1, hm3, hm26, hm18, hnp, hnr, hng, hnb5, hb, hsc, hlc, hpa, hro, hof, hte⟩ := hML2
  have hIC2 := hIC
  obtain ⟨i1, i2, ⟨i3, i4⟩, i5, i6, ⟨i7, i8⟩, i9, i10, i11⟩ := hIC2
  obtain ⟨b9, a9, ⟨hb9, rfl, ha4, hσ1, hRG9, hlt⟩, rfl, rfl⟩ := hp
  refine ⟨hML, cd3_t ⟨nI_rg hb9 (by omega), hRG9, ?_⟩, rfl, rfl, rfl, ?_⟩
  · show σ 60 3 < 40
    rw [hm3]; exact nI_lt (b := 40) hlt (by decide)
  · obtain ⟨z28, z31, z32, z33, z34, z35, z36⟩ := hRE1 nr (Nat.le_refl _)
    have e28 : upd (σ 28) nr 0 = σ 28 := upd_s z28
    have e31 : upd (σ 31) nr 0 = σ 31 := upd_s z31
    have e32 : upd (σ 32) nr 0 = σ 32 := upd_s z32
    have e33 : upd (σ 33) nr 0 = σ 33 := upd_s z33
    have e34 : upd (σ 34) nr 0 = σ 34 := upd_s z34
    have e35 : upd (σ 35) nr 0 = σ 35 := upd_s z35
    have e36 : upd (σ 36) nr 0 = σ 36 := upd_s z36
    obtain ⟨T, hT⟩ : ∃ T, T = (stM (up (up (stC σ nr b9 a9 x2 x3 x4 x5) 99 0 (nI nr)) 60 0 0) nr (nI b9) x2 x3 x4 x5) := ⟨_, rfl⟩
    rw [← hT]
    have t1 : T 1 = σ 1 := by rw [hT]; rfl
    have t2 : T 2 = upd (σ 2) nr 1 := by rw [hT]; rfl
    have t7 : T 7 = σ 7 := by rw [hT]; rfl
    have t9 : T 9 = σ 9 := by rw [hT]; rfl
    have t11 : T 11 = σ 11 := by rw [hT]; rfl
    have t13 : T 13 = upd (σ 13) a9 (σ 13 a9 + x2) := by rw [hT]; rfl
    have t14 : T 14 = σ 14 := by rw [hT]; rfl
    have t22 : T 22 = upd (σ 22) nr (nI a9) := by rw [hT]; rfl
    have t20 : T 20 = upd (σ 20) nr (nI nr) := by rw [hT]; rfl
    have t23 : T 23 = upd (σ 23) nr x2 := by rw [hT]; rfl
    have t26 : T 26 = upd (σ 26) nr x5 := by rw [hT]; rfl
    have t28 : T 28 = σ 28 := by rw [hT]; exact e28
    have t29 : T 29 = upd (σ 29) nr (-1) := by rw [hT]; rfl
    have t30 : T 30 = upd (σ 30) nr (-1) := by rw [hT]; rfl
    have t31 : T 31 = σ 31 := by rw [hT]; exact e31
    have t32 : T 32 = σ 32 := by rw [hT]; exact e32
    have t33 : T 33 = σ 33 := by rw [hT]; exact e33
    have t34 : T 34 = σ 34 := by rw [hT]; exact e34
    have t35 : T 35 = σ 35 := by rw [hT]; exact e35
    have t36 : T 36 = σ 36 := by rw [hT]; exact e36
    have t62 : T 62 = σ 62 := by rw [hT]; rfl
    have t64 : T 64 = upd (σ 64) nr (nI b9) := by rw [hT]; rfl
    have t65 : T 65 = upd (σ 65) nr x2 := by rw [hT]; rfl
    have t67 : T 67 = upd (σ 67) nr x4 := by rw [hT]; rfl
    have t73 : T 73 = σ 73 := by rw [hT]; rfl
    have t74 : T 74 = σ 74 := by rw [hT]; rfl
    have t87 : T 87 = σ 87 := by rw [hT]; rfl
    have hpit : ∀ s, s < nr → pitM T s = pitM σ s := fun s hs => by
      unfold pitM
      rw [t62, t64, pk_un (by omega)]
    have hpn : pitM T nr = nI a9 := by
      unfold pitM
      rw [t62, t64, pk_us, nI_clamp (by omega), ← a1]; exact hσ1
    have hRBT : RB T := ⟨fun i => by rw [t34, t35, t36, t74]; exact hRB.1 i, fun i => by
      rw [show T 52 = σ 52 by rw [hT]; rfl, show T 53 = σ 53 by rw [hT]; rfl, show T 54 = σ 54 by rw [hT]; rfl, show T 94 = σ 94 by rw [hT]; rfl]
      exact hRB.2.1 i, fun j => by
      rw [show T 94 = σ 94 by rw [hT]; rfl]
      exact hRB.2.2 j⟩
    have hbT : ∀ j, bd18 (T 74 j) := fun j => by rw [t74]; exact hb j
    have a33T : T 33 = T 73 := by rw [t33, t73]; exact a33
    obtain ⟨⟨h12a, h12b⟩, -, -, hF0⟩ := hRG9
    obtain ⟨F, hF1, hF2, hF3⟩ := rg_of (a := 0) (b := 4095) (x := x5) (by decide) hF0
    obtain ⟨W, hW1, hW2, hW3⟩ := rg_of (a := 12) (b := 9999) (x := x2) (by decide) ⟨h12a, h12b⟩
    have hW : ∀ i, i < nr → ∃ W, W ≤ 9999 ∧ σ 65 i = nI W := fun i hi => by
      obtain ⟨m, h1, h2, h3⟩ := rg_of (a := 12) (b := 9999) (by decide) (hRD1 i hi).2.2.1
      exact ⟨m, h2, by rw [← a23]; exact h3⟩
    have hcm : ∀ q : Nat, cmM T (nI q) nr = cmM σ (nI q) nr := fun q => cmM_cg3 (nI q) nr (fun s hs => ⟨hpit s hs, by rw [t65, pk_un (by omega)]⟩)
    refine ⟨⟨fun i hi => ?_, fun i hi => ?_, ⟨?_, i4⟩, ?_, ?_, ⟨?_, i8⟩, ?_, fun i hi => ?_, fun i hi => ?_⟩, ⟨fun i hi => ?_, fun i hi => ?_⟩, ⟨?_, ?_, ?_, ?_, hnp, hlt, hng, hnb5, hbT, fun s hs => ?_, fun p hp => ?_, fun s hs => ?_, fun p hp => ?_, fun b hb => ?_, ?_⟩, ?_, hRBT, ⟨?_, ?_, ?_, ?_⟩, fun i hi => ?_, fun i hi => ?_, fun i hi => ?_, fun i hi => ?_, fun i hi => ?_, ?_, fun j hj => ?_⟩
    · rw [t2]
      by_cases e : i = nr
      · subst e; rw [pk_us]; exact ⟨fun _ => by omega, fun _ => by decide⟩
      · rw [pk_un e]; exact (i1 i hi).trans ⟨fun _ => by omega, fun _ => by omega⟩
    · rw [t11]; exact i2 i hi
    · rw [hT]; exact i3
    · rw [hT]; rfl
    · rw [hT]; exact i6
    · rw [hT]; exact i7
    · unfold tOK
      rw [t9]
      exact i9.imp id (fun ⟨j, h1, h2⟩ => ⟨j, by omega, h2⟩)
    · rw [qual_eq a33T hRBT]; exact qOK_M hbT i
    · rw [t1]; exact i11 i hi
    · rw [t2, pk_un (by omega)]; exact hHZ.1 i (by omega)
    · rw [t11]; exact hHZ.2 i hi
    · rw [hT]; exact hm1
    · rw [hT]; rfl
    · rw [hT]; exact hm26
    · rw [hT]; exact hm18
    · rw [t73]
      rcases (show s < nr ∨ s = nr by omega) with e | e
      · exact hsc s e
      · exact ⟨0, by decide, by rw [e, ← a33]; exact z33⟩
    · rw [show T 93 = σ 93 by rw [hT]; rfl]; exact hlc p hp
    · rw [t64]
      rcases (show s < nr ∨ s = nr by omega) with e | e
      · rw [pk_un (by omega)]; exact hpa s e
      · exact ⟨b9, hb9, by rw [e, pk_us]⟩
    · rw [t87]; exact (hro p hp).imp (fun i h => ⟨by omega, h.2⟩)
    · rw [show T 81 = σ 81 by rw [hT]; rfl]; exact hof b hb
    · rw [show T 60 23 = σ 60 23 by rw [hT]; rfl]
      exact hte.imp id (fun ⟨j, h1, h2⟩ => ⟨j, by omega, h2⟩)
    · rw [hT]
      exact ⟨a1, (congrArg (fun g => upd g nr (nI b9)) a21), (congrArg (fun g => upd g nr x2) a23), (congrArg (fun g => upd g nr x3) a24), (congrArg (fun g => upd g nr x4) a25), (congrArg (fun g => upd g nr x5) a26), (e28.trans a28), (congrArg (fun g => upd g nr (-1)) a29), (congrArg (fun g => upd g nr (-1)) a30), (e31.trans a31), (e32.trans a32), (e33.trans a33), a3, a5, a8, a7, a6, a10, a40, a47, a44, a45, a43, a48, a50, a51, a12, a14⟩
    · rw [show T 9 1 = σ 9 1 by rw [hT]; rfl, show T 60 24 = σ 60 24 by rw [hT]; rfl]; exact hRC.1
    · rw [t9]; exact hRC.2.1
    · rw [t9, t28, show T 60 23 = σ 60 23 by rw [hT]; rfl]
      exact hRC.2.2.1.imp id (fun ⟨j, h1, h2⟩ => ⟨j, by omega, h2⟩)
    · rw [show T 0 13 = σ 0 13 by rw [hT]; rfl, show T 60 38 = σ 60 38 by rw [hT]; rfl]; exact hRC.2.2.2
    · rw [t20, t22, t23, t26]
      rcases (show i < nr ∨ i = nr by omega) with e | e
      · rw [pk_un (by omega), pk_un (by omega), pk_un (by omega), pk_un (by omega), hpit i e]
        exact hRD1 i e
      · rw [e, pk_us, pk_us, pk_us, pk_us, hpn]
        exact ⟨rfl, rfl, ⟨h12a, h12b⟩, F, by omega, hF3⟩
    · obtain ⟨q, hq, hq2⟩ := hro i hi
      rw [show T 41 = σ 41 by rw [hT]; rfl, show T 42 = σ 42 by rw [hT]; rfl, show T 47 = σ 47 by rw [hT]; rfl]
      unfold orgM
      rw [t87, t67, hq2, nI_clamp (by omega), pk_un (by omega), hpit q hq]
      have h9 := hRD2 i hi
      unfold orgM at h9
      rw [hq2, nI_clamp (by omega)] at h9
      exact h9
    · rw [t28, t31, t32, t33, t34, t35, t36]; exact hRE1 i (by omega)
    · rw [show T 50 = σ 50 by rw [hT]; rfl, show T 51 = σ 51 by rw [hT]; rfl, show T 52 = σ 52 by rw [hT]; rfl, show T 53 = σ 53 by rw [hT]; rfl, show T 54 = σ 54 by rw [hT]; rfl]
      exact hRE2 i hi
    · rw [t28, t29, t30]
      rcases (show i < nr ∨ i = nr by omega) with e | e
      · rw [pk_un (by omega), pk_un (by omega)]; exact hRF i e
      · rw [e, pk_us, pk_us]; exact Or.inr (Or.inl ⟨z28, rfl, rfl⟩)
    · unfold RG offd
      rw [t7, show T 80 = σ 80 by rw [hT]; rfl]; exact hRG
    · obtain ⟨g1, g2, g3⟩ := hRH j hj
      rw [cmM, hcm, hpn, t13, t14, t65, pk_us, ← g1]
      by_cases e : j = a9
      · subst e
        rw [pk_us, iF_t rfl]
        refine ⟨rfl, g2, ?_⟩
        obtain ⟨N, hN1, hN2⟩ := cmM_bd hW (nI j) nr (Nat.le_refl _)
        refine Int32.le_trans g3 ?_
        rw [g1, hN2, hW3, nI_add N W]
        exact (nI_leI (by omega) (by omega)).mpr (by omega)
      · rw [pk_un e, iF_f (fun z => e (by
          have h1 := congrArg Int32.toInt z
          rw [nI_toInt (by omega), nI_toInt (by omega)] at h1
          omega))]
        exact ⟨rfl, g2, g3⟩
theorem E_stone {nr ng np nb : Nat} {σ : Mm} (x1 x2 x3 x4 x5 : Int32) (hI : INV nr ng np nb σ) : ((fun E : String => (E = sIOB ∧ ¬ (0 ≤ x1 ∧ x1 < nI np)) ∨ (E = sIAE ∧ (0 ≤ x1 ∧ x1 < nI np) ∧ ¬ ((12 ≤ x2 ∧ x2 ≤ 9999) ∧ (0 ≤ x3 ∧ x3 ≤ 9) ∧ (0 ≤ x4 ∧ x4 ≤ 9) ∧ (0 ≤ x5 ∧ x5 ≤ 4095))) ∨ (E = sISE ∧ (0 ≤ x1 ∧ x1 < nI np) ∧ ((12 ≤ x2 ∧ x2 ≤ 9999) ∧ (0 ≤ x3 ∧ x3 ≤ 9) ∧ (0 ≤ x4 ∧ x4 ≤ 9) ∧ (0 ≤ x5 ∧ x5 ≤ 4095)) ∧ ¬ nr < 40)) sIOB → cd3 (0 ≤ x1 ∧ x1 < nI np) ((12 ≤ x2 ∧ x2 ≤ 9999) ∧ (0 ≤ x3 ∧ x3 ≤ 9) ∧ (0 ≤ x4 ∧ x4 ≤ 9) ∧ (0 ≤ x5 ∧ x5 ≤ 4095)) (σ 60 3 < 40) = 1) ∧ ((fun E : String => (E = sIOB ∧ ¬ (0 ≤ x1 ∧ x1 < nI np)) ∨ (E = sIAE ∧ (0 ≤ x1 ∧ x1 < nI np) ∧ ¬ ((12 ≤ x2 ∧ x2 ≤ 9999) ∧ (0 ≤ x3 ∧ x3 ≤ 9) ∧ (0 ≤ x4 ∧ x4 ≤ 9) ∧ (0 ≤ x5 ∧ x5 ≤ 4095))) ∨ (E = sISE ∧ (0 ≤ x1 ∧ x1 < nI np) ∧ ((12 ≤ x2 ∧ x2 ≤ 9999) ∧ (0 ≤ x3 ∧ x3 ≤ 9) ∧ (0 ≤ x4 ∧ x4 ≤ 9) ∧ (0 ≤ x5 ∧ x5 ≤ 4095)) ∧ ¬ nr < 40)) sIAE → cd3 (0 ≤ x1 ∧ x1 < nI np) ((12 ≤ x2 ∧ x2 ≤ 9999) ∧ (0 ≤ x3 ∧ x3 ≤ 9) ∧ (0 ≤ x4 ∧ x4 ≤ 9) ∧ (0 ≤ x5 ∧ x5 ≤ 4095)) (σ 60 3 < 40) = 2) ∧ ((fun E : String => (E = sIOB ∧ ¬ (0 ≤ x1 ∧ x1 < nI np)) ∨ (E = sIAE ∧ (0 ≤ x1 ∧ x1 < nI np) ∧ ¬ ((12 ≤ x2 ∧ x2 ≤ 9999) ∧ (0 ≤ x3 ∧ x3 ≤ 9) ∧ (0 ≤ x4 ∧ x4 ≤ 9) ∧ (0 ≤ x5 ∧ x5 ≤ 4095))) ∨ (E = sISE ∧ (0 ≤ x1 ∧ x1 < nI np) ∧ ((12 ≤ x2 ∧ x2 ≤ 9999) ∧ (0 ≤ x3 ∧ x3 ≤ 9) ∧ (0 ≤ x4 ∧ x4 ≤ 9) ∧ (0 ≤ x5 ∧ x5 ≤ 4095)) ∧ ¬ nr < 40)) sISE → cd3 (0 ≤ x1 ∧ x1 < nI np) ((12 ≤ x2 ∧ x2 ≤ 9999) ∧ (0 ≤ x3 ∧ x3 ≤ 9) ∧ (0 ≤ x4 ∧ x4 ≤ 9) ∧ (0 ≤ x5 ∧ x5 ≤ 4095)) (σ 60 3 < 40) = 3) := by
  have hI0 := hI
  obtain ⟨hIC, hHZ, hML, hRA, hRB, hRC, hRD1, hRD2, hRE1, hRE2, hRF, hRG, hRH⟩ := hI
  have hRA2 := hRA
  obtain ⟨a1, a21, a23, a24, a25, a26, a28, a29, a30, a31, a32, a33, a3, a5, a8, a7, a6, a10, a40, a47, a44, a45, a43, a48, a50, a51, a12, a14⟩ := hRA2
  have hML2 := hML
  obtain ⟨hm1, hm3, hm26, hm18, hnp, hnr, hng, hnb5, hb, hsc, hlc, hpa, hro, hof, hte⟩ := hML2
  have hIC2 := hIC
  obtain ⟨i1, i2, ⟨i3, i4⟩, i5, i6, ⟨i7, i8⟩, i9, i10, i11⟩ := hIC2
  refine ⟨fun h => ?_, fun h => ?_, fun h => ?_⟩
  · rcases h with ⟨_, h1⟩ | ⟨h, _⟩ | ⟨h, _⟩
    · exact cd3_1 h1
    · exact absurd h (by decide)
    · exact absurd h (by decide)
  · rcases h with ⟨h, _⟩ | ⟨_, h1, h2⟩ | ⟨h, _⟩
    · exact absurd h (by decide)
    · exact cd3_2 h1 h2
    · exact absurd h (by decide)
  · rcases h with ⟨h, _⟩ | ⟨h, _⟩ | ⟨_, h1, h2, h3⟩
    · exact absurd h (by decide)
    · exact absurd h (by decide)
    · exact cd3_3 h1 h2 (fun z => h3 (by rw [hm3] at z; exact (nI_ltI (b := 40) (by omega) (by decide)).mp z))
set_option maxRecDepth 10000 in
set_option maxHeartbeats 1000000 in
theorem S_drift {nr ng np nb : Nat} {σ σ2 : Mm} {ov : Int32} (x y : Int32) (hI : INV nr ng np nb σ) (hp : ∃ j, j < 4 ∧ x = nI j ∧ ((-2) ≤ y ∧ y ≤ 2) ∧ ov = σ 3 j ∧ σ2 = (up σ 3 j y)) : (ML nr ng np nb (up σ2 99 0 ov)) ∧ cd2 (0 ≤ x ∧ x ≤ 3) ((-2) ≤ y ∧ y ≤ 2) = 0 ∧ ov = (up (up σ2 99 0 ov) 60 0 0) 76 x.toNatClampNeg ∧ (up (up (up σ2 99 0 ov) 60 0 0) 76 x.toNatClampNeg y) 60 0 = 0 ∧ (up (up (up σ2 99 0 ov) 60 0 0) 76 x.toNatClampNeg y) 99 0 = ov ∧ INV nr ng np nb (up (up (up σ2 99 0 ov) 60 0 0) 76 x.toNatClampNeg y) := by
  have hI0 := hI
  obtain ⟨hIC, hHZ, hML, hRA, hRB, hRC, hRD1, hRD2, hRE1, hRE2, hRF, hRG, hRH⟩ := hI
  have hRA2 := hRA
  obtain ⟨a1, a21, a23, a24, a25, a26, a28, a29, a30, a31, a32, a33, a3, a5, a8, a7, a6, a10, a40, a47, a44, a45, a43, a48, a50, a51, a12, a14⟩ := hRA2
  have hML2 := hML
  obtain ⟨hm1, hm3, hm26, hm18, hnp, hnr, hng, hnb5, hb, hsc, hlc, hpa, hro, hof, hte⟩ := hML2
  have hIC2 := hIC
  obtain ⟨i1, i2, ⟨i3, i4⟩, i5, i6, ⟨i7, i8⟩, i9, i10, i11⟩ := hIC2
  obtain ⟨j, hj, rfl, hy, rfl, rfl⟩ := hp
  refine ⟨hML, cd2_t ⟨⟨(nI_rg hj (by omega)).1, (leL (a := 3) (b := nI 4) (by decide)).mpr (nI_rg hj (by omega)).2⟩, hy⟩, ?_, rfl, rfl, ?_⟩
  · rw [nI_clamp (by omega)]
    show σ 3 j = σ 76 j
    rw [a3]
  · rw [nI_clamp (by omega)]
    exact I_drift hj hI0
theorem E_drift {nr ng np nb : Nat} {σ : Mm} (x y : Int32) (hI : INV nr ng np nb σ) : ((fun E : String => (E = sIOB ∧ ¬ (0 ≤ x ∧ x < nI 4)) ∨ (E = sIAE ∧ (0 ≤ x ∧ x < nI 4) ∧ ¬ ((-2) ≤ y ∧ y ≤ 2))) sIOB → cd2 (0 ≤ x ∧ x ≤ 3) ((-2) ≤ y ∧ y ≤ 2) = 1) ∧ ((fun E : String => (E = sIOB ∧ ¬ (0 ≤ x ∧ x < nI 4)) ∨ (E = sIAE ∧ (0 ≤ x ∧ x < nI 4) ∧ ¬ ((-2) ≤ y ∧ y ≤ 2))) sIAE → cd2 (0 ≤ x ∧ x ≤ 3) ((-2) ≤ y ∧ y ≤ 2) = 2) := by
  have hI0 := hI
  obtain ⟨hIC, hHZ, hML, hRA, hRB, hRC, hRD1, hRD2, hRE1, hRE2, hRF, hRG, hRH⟩ := hI
  have hRA2 := hRA
  obtain ⟨a1, a21, a23, a24, a25, a26, a28, a29, a30, a31, a32, a33, a3, a5, a8, a7, a6, a10, a40, a47, a44, a45, a43, a48, a50, a51, a12, a14⟩ := hRA2
  have hML2 := hML
  obtain ⟨hm1, hm3, hm26, hm18, hnp, hnr, hng, hnb5, hb, hsc, hlc, hpa, hro, hof, hte⟩ := hML2
  have hIC2 := hIC
  obtain ⟨i1, i2, ⟨i3, i4⟩, i5, i6, ⟨i7, i8⟩, i9, i10, i11⟩ := hIC2
  refine ⟨fun h => ?_, fun h => ?_⟩
  · rcases h with ⟨_, h1⟩ | ⟨h, _⟩
    · exact cd2_1 (fun z => h1 ⟨z.1, (leL (a := 3) (b := nI 4) (by decide)).mp z.2⟩)
    · exact absurd h (by decide)
  · rcases h with ⟨h, _⟩ | ⟨_, h1, h2⟩
    · exact absurd h (by decide)
    · exact cd2_2 ⟨h1.1, (leL (a := 3) (b := nI 4) (by decide)).mpr h1.2⟩ h2
set_option maxRecDepth 10000 in
set_option maxHeartbeats 1000000 in
theorem S_sort {nr ng np nb : Nat} {σ σ2 : Mm} {ov : Int32} (x y : Int32) (hI : INV nr ng np nb σ) (hp : ∃ j i, j < 4 ∧ i < nr ∧ x = nI j ∧ y = nI i ∧ (σ 28 i = 0 ∧ ¬ 3 ≤ σ 33 i ∧ (σ 32 i >>> (nI j &&& 31)) &&& 1 = 0) ∧ ov = (mxI 0 (mnI 18 (σ 24 i + σ 25 i + σ 3 j))) ∧ σ2 = (up (up (up (up (up σ 32 i (σ 32 i ||| ((1 : Int32) <<< (nI j &&& 31)))) 33 i (σ 33 i + 1)) 34 i (iF (σ 33 i = 0) (mxI 0 (mnI 18 (σ 24 i + σ 25 i + σ 3 j))) (σ 34 i))) 35 i (iF (σ 33 i = 1) (mxI 0 (mnI 18 (σ 24 i + σ 25 i + σ 3 j))) (σ 35 i))) 36 i (iF (¬ σ 33 i = 0 ∧ ¬ σ 33 i = 1) (mxI 0 (mnI 18 (σ 24 i + σ 25 i + σ 3 j))) (σ 36 i)))) : (ML nr ng np nb (up σ2 99 0 ov)) ∧ cd2 ((0 ≤ x ∧ x ≤ 3) ∧ (0 ≤ y ∧ y < nI nr)) ((up σ2 99 0 ov) 69 y.toNatClampNeg = 0 ∧ ((up σ2 99 0 ov) 75 y.toNatClampNeg >>> (x &&& 31)) &&& 1 = 0 ∧ (up σ2 99 0 ov) 73 y.toNatClampNeg < 3) = 0 ∧ ov = (mxI 0 (mnI 18 ((up (up σ2 99 0 ov) 60 0 0) 66 y.toNatClampNeg + (up (up σ2 99 0 ov) 60 0 0) 67 y.toNatClampNeg + (up (up σ2 99 0 ov) 60 0 0) 76 x.toNatClampNeg))) ∧ (up (up (up (up (up σ2 99 0 ov) 60 0 0) 74 (3 * y.toNatClampNeg + ((up (up σ2 99 0 ov) 60 0 0) 73 y.toNatClampNeg).toNatClampNeg) (mxI 0 (mnI 18 ((up (up σ2 99 0 ov) 60 0 0) 66 y.toNatClampNeg + (up (up σ2 99 0 ov) 60 0 0) 67 y.toNatClampNeg + (up (up σ2 99 0 ov) 60 0 0) 76 x.toNatClampNeg)))) 73 y.toNatClampNeg ((up (up σ2 99 0 ov) 60 0 0) 73 y.toNatClampNeg + 1)) 75 y.toNatClampNeg ((up (up σ2 99 0 ov) 60 0 0) 75 y.toNatClampNeg ||| ((1 : Int32) <<< (x &&& 31)))) 60 0 = 0 ∧ (up (up (up (up (up σ2 99 0 ov) 60 0 0) 74 (3 * y.toNatClampNeg + ((up (up σ2 99 0 ov) 60 0 0) 73 y.toNatClampNeg).toNatClampNeg) (mxI 0 (mnI 18 ((up (up σ2 99 0 ov) 60 0 0) 66 y.toNatClampNeg + (up (up σ2 99 0 ov) 60 0 0) 67 y.toNatClampNeg + (up (up σ2 99 0 ov) 60 0 0) 76 x.toNatClampNeg)))) 73 y.toNatClampNeg ((up (up σ2 99 0 ov) 60 0 0) 73 y.toNatClampNeg + 1)) 75 y.toNatClampNeg ((up (up σ2 99 0 ov) 60 0 0) 75 y.toNatClampNeg ||| ((1 : Int32) <<< (x &&& 31)))) 99 0 = ov ∧ INV nr ng np nb (up (up (up (up (up σ2 99 0 ov) 60 0 0) 74 (3 * y.toNatClampNeg + ((up (up σ2 99 0 ov) 60 0 0) 73 y.toNatClampNeg).toNatClampNeg) (mxI 0 (mnI 18 ((up (up σ2 99 0 ov) 60 0 0) 66 y.toNatClampNeg + (up (up σ2 99 0 ov) 60 0 0) 67 y.toNatClampNeg + (up (up σ2 99 0 ov) 60 0 0) 76 x.toNatClampNeg)))) 73 y.toNatClampNeg ((up (up σ2 99 0 ov) 60 0 0) 73 y.toNatClampNeg + 1)) 75 y.toNatClampNeg ((up (up σ2 99 0 ov) 60 0 0) 75 y.toNatClampNeg ||| ((1 : Int32) <<< (x &&& 31)))) := by
  have hI0 := hI
  obtain ⟨hIC, hHZ, hML, hRA, hRB, hRC, hRD1, hRD2, hRE1, hRE2, hRF, hRG, hRH⟩ := hI
  have hRA2 := hRA
  obtain ⟨a1, a21, a23, a24, a25, a26, a28, a29, a30, a31, a32, a33, a3, a5, a8, a7, a6, a10, a40, a47, a44, a45, a43, a48, a50, a51, a12, a14⟩ := hRA2
  have hML2 := hML
  obtain ⟨hm1, hm3, hm26, hm18, hnp, hnr, hng, hnb5, hb, hsc, hlc, hpa, hro, hof, hte⟩ := hML2
  have hIC2 := hIC
  obtain ⟨i1, i2, ⟨i3, i4⟩, i5, i6, ⟨i7, i8⟩, i9, i10, i11⟩ := hIC2
  obtain ⟨j, i, hj, hi, rfl, rfl, ⟨h28, h33, hbit⟩, rfl, rfl⟩ := hp
  obtain ⟨cc, hc3, hc⟩ := hsc i hi
  have hn33 : σ 33 i = nI cc := by rw [a33]; exact hc
  have hc2 : cc < 3 := by
    rcases (show cc < 3 ∨ cc = 3 by omega) with z | z
    · exact z
    · exact absurd (by rw [hn33, z]; decide) h33
  have hTT : mxI 0 (mnI 18 (σ 66 i + σ 67 i + σ 76 j)) = mxI 0 (mnI 18 (σ 24 i + σ 25 i + σ 3 j)) := by rw [a24, a25, a3]
  have hbT : bd18 (mxI 0 (mnI 18 (σ 66 i + σ 67 i + σ 76 j))) := bd_T (M := 18) (by omega)
  rw [nI_clamp (by omega), nI_clamp (by omega)]
  refine ⟨hML, cd2_t ⟨⟨⟨(nI_rg hj (by omega)).1, (leL (a := 3) (b := nI 4) (by decide)).mpr (nI_rg hj (by omega)).2⟩, nI_rg hi (by omega)⟩, ?_⟩, ?_, rfl, rfl, ?_⟩
  · show σ 69 i = 0 ∧ (σ 75 i >>> (nI j &&& 31)) &&& 1 = 0 ∧ σ 73 i < 3
    rw [← a28, ← a32, ← a33]
    exact ⟨h28, hbit, Int32.not_le.mp h33⟩
  · exact hTT.symm
  · have hix : 3 * i + (σ 73 i).toNatClampNeg = 3 * i + cc := by rw [hc, nI_clamp (by omega)]
    have hRB2 := op_eq (i := i) (n := σ 33 i) (u := mxI 0 (mnI 18 (σ 66 i + σ 67 i + σ 76 j))) (t := mxI 0 (mnI 18 (σ 24 i + σ 25 i + σ 3 j))) hc2 hn33 hTT hRB.1
    rw [← hix] at hRB2
    have hb2 : ∀ q, bd18 (upd (σ 74) (3 * i + (σ 73 i).toNatClampNeg) (mxI 0 (mnI 18 (σ 66 i + σ 67 i + σ 76 j))) q) := fun q => upd_p bd18 hbT (hb q)
    have ha33 : upd (σ 33) i (σ 33 i + 1) = upd (σ 73) i (σ 73 i + 1) := by rw [a33]
    have hsc2 : ∀ s, s < nr → ∃ c, c ≤ 3 ∧ upd (σ 73) i (σ 73 i + 1) s = nI c := fun s hs => by
      by_cases e : s = i
      · subst e; exact ⟨cc + 1, by omega, by rw [pk_us, hc]; exact nI_1 cc⟩
      · rw [pk_un e]; exact hsc s hs
    refine ⟨⟨i1, i2, ⟨i3, i4⟩, i5, i6, ⟨i7, i8⟩, i9, ?_, i11⟩, hHZ, ⟨hm1, hm3, hm26, hm18, hnp, hnr, hng, hnb5, hb2, hsc2, hlc, hpa, hro, hof, hte⟩, ⟨a1, a21, a23, a24, a25, a26, a28, a29, a30, a31, (by
        show upd (σ 32) i (σ 32 i ||| ((1 : Int32) <<< (nI j &&& 31))) = upd (σ 75) i (σ 75 i ||| ((1 : Int32) <<< (nI j &&& 31)))
        rw [a32]), ha33, a3, a5, a8, a7, a6, a10, a40, a47, a44, a45, a43, a48, a50, a51, a12, a14⟩, ⟨hRB2, hRB.2⟩, hRC, hRD1, hRD2, fun p hp => by
        obtain ⟨q1, q2, q3, q4, q5, q6, q7⟩ := hRE1 p hp
        have e : p ≠ i := by omega
        exact ⟨q1, q2, (pk_un e).trans q3, (pk_un e).trans q4, (pk_un e).trans q5, (pk_un e).trans q6, (pk_un e).trans q7⟩, hRE2, hRF, hRG, RH_cg (σ := σ) rfl rfl rfl rfl rfl hRH⟩
    intro s hs
    have hq := qual_eq (σ := up (up (up (up (up (up (up (up (up (up σ 32 i (σ 32 i ||| ((1 : Int32) <<< (nI j &&& 31)))) 33 i (σ 33 i + 1)) 34 i (iF (σ 33 i = 0) (mxI 0 (mnI 18 (σ 24 i + σ 25 i + σ 3 j))) (σ 34 i))) 35 i (iF (σ 33 i = 1) (mxI 0 (mnI 18 (σ 24 i + σ 25 i + σ 3 j))) (σ 35 i))) 36 i (iF (¬ σ 33 i = 0 ∧ ¬ σ 33 i = 1) (mxI 0 (mnI 18 (σ 24 i + σ 25 i + σ 3 j))) (σ 36 i))) 99 0 (mxI 0 (mnI 18 (σ 24 i + σ 25 i + σ 3 j)))) 60 0 0) 74 (3 * i + (σ 73 i).toNatClampNeg) (mxI 0 (mnI 18 (σ 66 i + σ 67 i + σ 76 j)))) 73 i (σ 73 i + 1)) 75 i (σ 75 i ||| ((1 : Int32) <<< (nI j &&& 31)))) ha33 ⟨hRB2, hRB.2⟩ s
    refine Eq.mpr (congrArg qOK hq) ?_
    exact qOK_M hb2 s
theorem E_sort {nr ng np nb : Nat} {σ : Mm} (x y : Int32) (hI : INV nr ng np nb σ) : ((fun E : String => (E = sIOB ∧ ¬ ((0 ≤ x ∧ x < nI 4) ∧ (0 ≤ y ∧ y < nI nr))) ∨ (E = sISE ∧ ((0 ≤ x ∧ x < nI 4) ∧ (0 ≤ y ∧ y < nI nr)) ∧ ∃ i, i < nr ∧ y = nI i ∧ ¬ (σ 28 i = 0 ∧ ¬ 3 ≤ σ 33 i ∧ (σ 32 i >>> (x &&& 31)) &&& 1 = 0))) sIOB → cd2 ((0 ≤ x ∧ x ≤ 3) ∧ (0 ≤ y ∧ y < nI nr)) (σ 69 y.toNatClampNeg = 0 ∧ (σ 75 y.toNatClampNeg >>> (x &&& 31)) &&& 1 = 0 ∧ σ 73 y.toNatClampNeg < 3) = 1) ∧ ((fun E : String => (E = sIOB ∧ ¬ ((0 ≤ x ∧ x < nI 4) ∧ (0 ≤ y ∧ y < nI nr))) ∨ (E = sISE ∧ ((0 ≤ x ∧ x < nI 4) ∧ (0 ≤ y ∧ y < nI nr)) ∧ ∃ i, i < nr ∧ y = nI i ∧ ¬ (σ 28 i = 0 ∧ ¬ 3 ≤ σ 33 i ∧ (σ 32 i >>> (x &&& 31)) &&& 1 = 0))) sISE → cd2 ((0 ≤ x ∧ x ≤ 3) ∧ (0 ≤ y ∧ y < nI nr)) (σ 69 y.toNatClampNeg = 0 ∧ (σ 75 y.toNatClampNeg >>> (x &&& 31)) &&& 1 = 0 ∧ σ 73 y.toNatClampNeg < 3) = 2) := by
  have hI0 := hI
  obtain ⟨hIC, hHZ, hML, hRA, hRB, hRC, hRD1, hRD2, hRE1, hRE2, hRF, hRG, hRH⟩ := hI
  have hRA2 := hRA
  obtain ⟨a1, a21, a23, a24, a25, a26, a28, a29, a30, a31, a32, a33, a3, a5, a8, a7, a6, a10, a40, a47, a44, a45, a43, a48, a50, a51, a12, a14⟩ := hRA2
  have hML2 := hML
  obtain ⟨hm1, hm3, hm26, hm18, hnp, hnr, hng, hnb5, hb, hsc, hlc, hpa, hro, hof, hte⟩ := hML2
  have hIC2 := hIC
  obtain ⟨i1, i2, ⟨i3, i4⟩, i5, i6, ⟨i7, i8⟩, i9, i10, i11⟩ := hIC2
  refine ⟨fun h => ?_, fun h => ?_⟩
  · rcases h with ⟨_, h1⟩ | ⟨h, _⟩
    · exact cd2_1 (fun z => h1 ⟨⟨z.1.1, (leL (a := 3) (b := nI 4) (by decide)).mp z.1.2⟩, z.2⟩)
    · exact absurd h (by decide)
  · rcases h with ⟨h, _⟩ | ⟨_, h1, h2⟩
    · exact absurd h (by decide)
    · obtain ⟨i, hi, rfl, hn⟩ := h2
      refine cd2_2 ⟨⟨h1.1.1, (leL (a := 3) (b := nI 4) (by decide)).mpr h1.1.2⟩, h1.2⟩ (fun z => hn ?_)
      rw [nI_clamp (by omega)] at z
      rw [a28, a32, a33]
      exact ⟨z.1, Int32.not_le.mpr z.2.2, z.2.1⟩
set_option maxRecDepth 10000 in
set_option maxHeartbeats 1000000 in
theorem S_price {nr ng np nb : Nat} {σ σ2 : Mm} {ov : Int32} (x y v : Int32) (hI : INV nr ng np nb σ) (hp : ∃ j i, j < 4 ∧ i < 19 ∧ x = nI j ∧ y = nI i ∧ (1 ≤ v ∧ v ≤ 99999) ∧ ov = σ 5 (19 * j + i) ∧ σ2 = (up σ 5 (19 * j + i) v)) : (ML nr ng np nb (up σ2 99 0 ov)) ∧ cd2 ((0 ≤ x ∧ x ≤ 3) ∧ (0 ≤ y ∧ y ≤ 18)) (1 ≤ v ∧ v ≤ 99999) = 0 ∧ ov = (up (up σ2 99 0 ov) 60 0 0) 77 (19 * x.toNatClampNeg + y.toNatClampNeg) ∧ (up (up (up σ2 99 0 ov) 60 0 0) 77 (19 * x.toNatClampNeg + y.toNatClampNeg) v) 60 0 = 0 ∧ (up (up (up σ2 99 0 ov) 60 0 0) 77 (19 * x.toNatClampNeg + y.toNatClampNeg) v) 99 0 = ov ∧ INV nr ng np nb (up (up (up σ2 99 0 ov) 60 0 0) 77 (19 * x.toNatClampNeg + y.toNatClampNeg) v) := by
  have hI0 := hI
  obtain ⟨hIC, hHZ, hML, hRA, hRB, hRC, hRD1, hRD2, hRE1, hRE2, hRF, hRG, hRH⟩ := hI
  have hRA2 := hRA
  obtain ⟨a1, a21, a23, a24, a25, a26, a28, a29, a30, a31, a32, a33, a3, a5, a8, a7, a6, a10, a40, a47, a44, a45, a43, a48, a50, a51, a12, a14⟩ := hRA2
  have hML2 := hML
  obtain ⟨hm1, hm3, hm26, hm18, hnp, hnr, hng, hnb5, hb, hsc, hlc, hpa, hro, hof, hte⟩ := hML2
  have hIC2 := hIC
  obtain ⟨i1, i2, ⟨i3, i4⟩, i5, i6, ⟨i7, i8⟩, i9, i10, i11⟩ := hIC2
  obtain ⟨j, i, hj, hi, rfl, rfl, hv, rfl, rfl⟩ := hp
  refine ⟨hML, cd2_t ⟨⟨⟨(nI_rg hj (by omega)).1, (leL (a := 3) (b := nI 4) (by decide)).mpr (nI_rg hj (by omega)).2⟩, ⟨(nI_rg hi (by omega)).1, (leL (a := 18) (b := nI 19) (by decide)).mpr (nI_rg hi (by omega)).2⟩⟩, hv⟩, ?_, rfl, rfl, ?_⟩
  · rw [nI_clamp (by omega), nI_clamp (by omega)]
    show σ 5 (19 * j + i) = σ 77 (19 * j + i)
    rw [a5]
  · rw [nI_clamp (by omega), nI_clamp (by omega)]
    exact I_price hI0
theorem E_price {nr ng np nb : Nat} {σ : Mm} (x y v : Int32) (hI : INV nr ng np nb σ) : ((fun E : String => (E = sIOB ∧ ¬ ((0 ≤ x ∧ x < 4) ∧ (0 ≤ y ∧ y < 19))) ∨ (E = sIAE ∧ ((0 ≤ x ∧ x < 4) ∧ (0 ≤ y ∧ y < 19)) ∧ ¬ (1 ≤ v ∧ v ≤ 99999))) sIOB → cd2 ((0 ≤ x ∧ x ≤ 3) ∧ (0 ≤ y ∧ y ≤ 18)) (1 ≤ v ∧ v ≤ 99999) = 1) ∧ ((fun E : String => (E = sIOB ∧ ¬ ((0 ≤ x ∧ x < 4) ∧ (0 ≤ y ∧ y < 19))) ∨ (E = sIAE ∧ ((0 ≤ x ∧ x < 4) ∧ (0 ≤ y ∧ y < 19)) ∧ ¬ (1 ≤ v ∧ v ≤ 99999))) sIAE → cd2 ((0 ≤ x ∧ x ≤ 3) ∧ (0 ≤ y ∧ y ≤ 18)) (1 ≤ v ∧ v ≤ 99999) = 2) := by
  have hI0 := hI
  obtain ⟨hIC, hHZ, hML, hRA, hRB, hRC, hRD1, hRD2, hRE1, hRE2, hRF, hRG, hRH⟩ := hI
  have hRA2 := hRA
  obtain ⟨a1, a21, a23, a24, a25, a26, a28, a29, a30, a31, a32, a33, a3, a5, a8, a7, a6, a10, a40, a47, a44, a45, a43, a48, a50, a51, a12, a14⟩ := hRA2
  have hML2 := hML
  obtain ⟨hm1, hm3, hm26, hm18, hnp, hnr, hng, hnb5, hb, hsc, hlc, hpa, hro, hof, hte⟩ := hML2
  have hIC2 := hIC
  obtain ⟨i1, i2, ⟨i3, i4⟩, i5, i6, ⟨i7, i8⟩, i9, i10, i11⟩ := hIC2
  refine ⟨fun h => ?_, fun h => ?_⟩
  · rcases h with ⟨_, h1⟩ | ⟨h, _⟩
    · exact cd2_1 (fun z => h1 ⟨⟨z.1.1, (leL (a := 3) (b := 4) (by decide)).mp z.1.2⟩, ⟨z.2.1, (leL (a := 18) (b := 19) (by decide)).mp z.2.2⟩⟩)
    · exact absurd h (by decide)
  · rcases h with ⟨h, _⟩ | ⟨_, h1, h2⟩
    · exact absurd h (by decide)
    · exact cd2_2 ⟨⟨h1.1.1, (leL (a := 3) (b := 4) (by decide)).mpr h1.1.2⟩, ⟨h1.2.1, (leL (a := 18) (b := 19) (by decide)).mpr h1.2.2⟩⟩ h2
set_option maxRecDepth 10000 in
set_option maxHeartbeats 1000000 in
theorem S_value {nr ng np nb : Nat} {σ σ2 : Mm} {ov : Int32} (x : Int32) (hI : INV nr ng np nb σ) (hp : ∃ i, i < nr ∧ x = nI i ∧ ov = valC σ i ∧ σ2 = σ) : (ML nr ng np nb (up σ2 99 0 ov)) ∧ cd1 (0 ≤ x ∧ x < nI nr) = 0 ∧ ov = valM (up (up σ2 99 0 ov) 60 0 0) x.toNatClampNeg ∧ ((up (up σ2 99 0 ov) 60 0 0)) 60 0 = 0 ∧ ((up (up σ2 99 0 ov) 60 0 0)) 99 0 = ov ∧ INV nr ng np nb ((up (up σ2 99 0 ov) 60 0 0)) := by
  have hI0 := hI
  obtain ⟨hIC, hHZ, hML, hRA, hRB, hRC, hRD1, hRD2, hRE1, hRE2, hRF, hRG, hRH⟩ := hI
  have hRA2 := hRA
  obtain ⟨a1, a21, a23, a24, a25, a26, a28, a29, a30, a31, a32, a33, a3, a5, a8, a7, a6, a10, a40, a47, a44, a45, a43, a48, a50, a51, a12, a14⟩ := hRA2
  have hML2 := hML
  obtain ⟨hm1, hm3, hm26, hm18, hnp, hnr, hng, hnb5, hb, hsc, hlc, hpa, hro, hof, hte⟩ := hML2
  have hIC2 := hIC
  obtain ⟨i1, i2, ⟨i3, i4⟩, i5, i6, ⟨i7, i8⟩, i9, i10, i11⟩ := hIC2
  obtain ⟨i, hi, rfl, rfl, rfl⟩ := hp
  refine ⟨hML, cd1_t (nI_rg hi (by omega)), ?_, rfl, rfl, INV_60 0 (INV_99 _ hI0)⟩
  rw [nI_clamp (by omega)]
  exact val_eq a33 a23 a5 hRB i
theorem E_value {nr ng np nb : Nat} {σ : Mm} (x : Int32) (hI : INV nr ng np nb σ) : ((fun E : String => E = sIOB ∧ ¬ (0 ≤ x ∧ x < nI nr)) sIOB → cd1 (0 ≤ x ∧ x < nI nr) = 1) := by
  have hI0 := hI
  obtain ⟨hIC, hHZ, hML, hRA, hRB, hRC, hRD1, hRD2, hRE1, hRE2, hRF, hRG, hRH⟩ := hI
  have hRA2 := hRA
  obtain ⟨a1, a21, a23, a24, a25, a26, a28, a29, a30, a31, a32, a33, a3, a5, a8, a7, a6, a10, a40, a47, a44, a45, a43, a48, a50, a51, a12, a14⟩ := hRA2
  have hML2 := hML
  obtain ⟨hm1, hm3, hm26, hm18, hnp, hnr, hng, hnb5, hb, hsc, hlc, hpa, hro, hof, hte⟩ := hML2
  have hIC2 := hIC
  obtain ⟨i1, i2, ⟨i3, i4⟩, i5, i6, ⟨i7, i8⟩, i9, i10, i11⟩ := hIC2
  intro h
  obtain ⟨_, h1⟩ := h
  exact cd1_1 h1
set_option maxRecDepth 10000 in
set_option maxHeartbeats 1000000 in
theorem S_stoneIs {nr ng np nb : Nat} {σ σ2 : Mm} {ov : Int32} (x y : Int32) (hI : INV nr ng np nb σ) (hp : ∃ i, i < nr ∧ x = nI i ∧ (0 ≤ y ∧ y ≤ 6) ∧ ov = siC σ i y ∧ σ2 = σ) : (ML nr ng np nb (up σ2 99 0 ov)) ∧ cd2 (0 ≤ x ∧ x < nI nr) (0 ≤ y ∧ y ≤ 6) = 0 ∧ ov = siM (up (up σ2 99 0 ov) 60 0 0) x.toNatClampNeg y ∧ ((up (up σ2 99 0 ov) 60 0 0)) 60 0 = 0 ∧ ((up (up σ2 99 0 ov) 60 0 0)) 99 0 = ov ∧ INV nr ng np nb ((up (up σ2 99 0 ov) 60 0 0)) := by
  have hI0 := hI
  obtain ⟨hIC, hHZ, hML, hRA, hRB, hRC, hRD1, hRD2, hRE1, hRE2, hRF, hRG, hRH⟩ := hI
  have hRA2 := hRA
  obtain ⟨a1, a21, a23, a24, a25, a26, a28, a29, a30, a31, a32, a33, a3, a5, a8, a7, a6, a10, a40, a47, a44, a45, a43, a48, a50, a51, a12, a14⟩ := hRA2
  have hML2 := hML
  obtain ⟨hm1, hm3, hm26, hm18, hnp, hnr, hng, hnb5, hb, hsc, hlc, hpa, hro, hof, hte⟩ := hML2
  have hIC2 := hIC
  obtain ⟨i1, i2, ⟨i3, i4⟩, i5, i6, ⟨i7, i8⟩, i9, i10, i11⟩ := hIC2
  obtain ⟨i, hi, rfl, hy, rfl, rfl⟩ := hp
  refine ⟨hML, cd2_t ⟨nI_rg hi (by omega), hy⟩, ?_, rfl, rfl, INV_60 0 (INV_99 _ hI0)⟩
  rw [nI_clamp (by omega)]
  show siC σ2 i y = siM σ2 i y
  unfold siC siM
  rw [a28, qual_eq a33 hRB, bI_c (dbl_eq a33 hRB i), a29, a30, a21, a31]
theorem E_stoneIs {nr ng np nb : Nat} {σ : Mm} (x y : Int32) (hI : INV nr ng np nb σ) : ((fun E : String => (E = sIOB ∧ ¬ (0 ≤ x ∧ x < nI nr)) ∨ (E = sIAE ∧ (0 ≤ x ∧ x < nI nr) ∧ ¬ (0 ≤ y ∧ y ≤ 6))) sIOB → cd2 (0 ≤ x ∧ x < nI nr) (0 ≤ y ∧ y ≤ 6) = 1) ∧ ((fun E : String => (E = sIOB ∧ ¬ (0 ≤ x ∧ x < nI nr)) ∨ (E = sIAE ∧ (0 ≤ x ∧ x < nI nr) ∧ ¬ (0 ≤ y ∧ y ≤ 6))) sIAE → cd2 (0 ≤ x ∧ x < nI nr) (0 ≤ y ∧ y ≤ 6) = 2) := by
  have hI0 := hI
  obtain ⟨hIC, hHZ, hML, hRA, hRB, hRC, hRD1, hRD2, hRE1, hRE2, hRF, hRG, hRH⟩ := hI
  have hRA2 := hRA
  obtain ⟨a1, a21, a23, a24, a25, a26, a28, a29, a30, a31, a32, a33, a3, a5, a8, a7, a6, a10, a40, a47, a44, a45, a43, a48, a50, a51, a12, a14⟩ := hRA2
  have hML2 := hML
  obtain ⟨hm1, hm3, hm26, hm18, hnp, hnr, hng, hnb5, hb, hsc, hlc, hpa, hro, hof, hte⟩ := hML2
  have hIC2 := hIC
  obtain ⟨i1, i2, ⟨i3, i4⟩, i5, i6, ⟨i7, i8⟩, i9, i10, i11⟩ := hIC2
  refine ⟨fun h => ?_, fun h => ?_⟩
  · rcases h with ⟨_, h1⟩ | ⟨h, _⟩
    · exact cd2_1 h1
    · exact absurd h (by decide)
  · rcases h with ⟨h, _⟩ | ⟨_, h1, h2⟩
    · exact absurd h (by decide)
    · exact cd2_2 h1 h2
set_option maxRecDepth 10000 in
set_option maxHeartbeats 1000000 in
theorem S_boxes {nr ng np nb : Nat} {σ σ2 : Mm} {ov : Int32} (x : Int32) (hI : INV nr ng np nb σ) (hp : ∃ m, 1 ≤ m ∧ m ≤ 5 ∧ x = nI m ∧ ov = nI (fillN 40 (opB σ (nI m))) ∧ σ2 = (offG (fillG 40 (opB σ (nI m))) m)) : (ML nr ng np nb (up σ2 99 0 ov)) ∧ cd1 (1 ≤ x ∧ x ≤ 5) = 0 ∧ ov = nI (fiN nr x.toNatClampNeg 40 (opMm (up (up σ2 99 0 ov) 60 0 0) nr x)) ∧ (ofM (fiM nr x.toNatClampNeg 40 (opMm (up (up σ2 99 0 ov) 60 0 0) nr x)) x.toNatClampNeg 5) 60 0 = 0 ∧ (ofM (fiM nr x.toNatClampNeg 40 (opMm (up (up σ2 99 0 ov) 60 0 0) nr x)) x.toNatClampNeg 5) 99 0 = ov ∧ ∃ m, m ≤ 5 ∧ INV nr ng np m (ofM (fiM nr x.toNatClampNeg 40 (opMm (up (up σ2 99 0 ov) 60 0 0) nr x)) x.toNatClampNeg 5) := by
  have hI0 := hI
  obtain ⟨hIC, hHZ, hML, hRA, hRB, hRC, hRD1, hRD2, hRE1, hRE2, hRF, hRG, hRH⟩ := hI
  have hRA2 := hRA
  obtain ⟨a1, a21, a23, a24, a25, a26, a28, a29, a30, a31, a32, a33, a3, a5, a8, a7, a6, a10, a40, a47, a44, a45, a43, a48, a50, a51, a12, a14⟩ := hRA2
  have hML2 := hML
  obtain ⟨hm1, hm3, hm26, hm18, hnp, hnr, hng, hnb5, hb, hsc, hlc, hpa, hro, hof, hte⟩ := hML2
  have hIC2 := hIC
  obtain ⟨i1, i2, ⟨i3, i4⟩, i5, i6, ⟨i7, i8⟩, i9, i10, i11⟩ := hIC2
  obtain ⟨m, hma, hmb, rfl, rfl, rfl⟩ := hp
  rw [nI_clamp (by omega)]
  obtain ⟨A0, hA0⟩ : ∃ A0, A0 = opB σ (nI m) := ⟨_, rfl⟩
  rw [← hA0]
  obtain ⟨A1, hA1⟩ : ∃ A1, A1 = fillG 40 A0 := ⟨_, rfl⟩
  rw [← hA1]
  obtain ⟨Af, hAf⟩ : ∃ Af, Af = offG A1 m := ⟨_, rfl⟩
  rw [← hAf]
  obtain ⟨N, hN⟩ : ∃ N, N = fillN 40 A0 := ⟨_, rfl⟩
  rw [← hN]
  obtain ⟨μ, hμ⟩ : ∃ μ, μ = up (up Af 99 0 (nI N)) 60 0 0 := ⟨_, rfl⟩
  rw [← hμ]
  obtain ⟨B0, hB0⟩ : ∃ B0, B0 = opMm μ nr (nI m) := ⟨_, rfl⟩
  rw [← hB0]
  obtain ⟨B1, hB1⟩ : ∃ B1, B1 = fiM nr m 40 B0 := ⟨_, rfl⟩
  rw [← hB1]
  obtain ⟨T, hT⟩ : ∃ T, T = ofM B1 m 5 := ⟨_, rfl⟩
  rw [← hT]
  -- rows
  have rA0 : ∀ r, r ≠ 28 → r ≠ 30 → r ≠ 7 → r ≠ 8 → r ≠ 0 → A0 r = σ r := fun r h1 h2 h3 h4 h5 => by rw [hA0]; exact opB_r σ _ h1 h2 h3 h4 h5
  have a028 : A0 28 = opC σ 40 28 := by rw [hA0]; rfl
  have a030 : A0 30 = opC σ 40 30 := by rw [hA0]; rfl
  have a07 : A0 7 = fillF (σ 7) (-1) 5 := by rw [hA0]; rfl
  have a08 : A0 8 = fillF (σ 8) 0 5 := by rw [hA0]; rfl
  have a00 : A0 0 = upd (σ 0) 9 (nI m) := by
    rw [hA0, ← opC_r σ (show 0 ≠ 28 by decide) (show 0 ≠ 30 by decide) 40]; rfl
  have rA1 : ∀ r, r ≠ 8 → r ≠ 28 → r ≠ 30 → r ≠ 9 → A1 r = A0 r := fun r h1 h2 h3 h4 => by rw [hA1]; exact fillG_r h1 h2 h3 h4 40 A0
  have rAf : ∀ r, r ≠ 7 → Af r = A1 r := fun r h => by rw [hAf]; exact offG_r A1 h m
  have rS : ∀ r, 60 ≤ r → Af r = σ r := fun r h => by rw [rAf r (by omega), rA1 r (by omega) (by omega) (by omega) (by omega), rA0 r (by omega) (by omega) (by omega) (by omega) (by omega)]
  have mu : ∀ r, 60 < r → r < 99 → μ r = σ r := fun r h1 h2 => by rw [hμ, up_ne (by omega), up_ne (by omega), rS r (by omega)]
  have mu60 : μ 60 = upd (σ 60) 0 0 := by rw [hμ, ← rS 60 (by decide)]; rfl
  have muL : ∀ r, r < 60 → μ r = Af r := fun r h => by rw [hμ, up_ne (by omega), up_ne (by omega)]
  have rB0 : ∀ r, r ≠ 69 → r ≠ 71 → r ≠ 79 → r ≠ 80 → r ≠ 81 → r ≠ 60 → B0 r = μ r := fun r h1 h2 h3 h4 h5 h6 => by
    rw [hB0]; unfold opMm
    rw [fl3_r _ _ h3 h4 h5, up_ne h6, obM_r μ h1 h2]
  have b069 : B0 69 = obM μ nr 69 := by
    rw [hB0]; unfold opMm
    rw [fl3_r _ _ (by decide) (by decide) (by decide), up_ne (by decide)]
  have b071 : B0 71 = obM μ nr 71 := by
    rw [hB0]; unfold opMm
    rw [fl3_r _ _ (by decide) (by decide) (by decide), up_ne (by decide)]
  have b060 : B0 60 = upd (upd (σ 60) 0 0) 18 (nI m) := by
    rw [hB0, ← mu60, ← obM_r μ (show 60 ≠ 69 by decide) (show 60 ≠ 71 by decide) nr]
    unfold opMm
    rw [fl3_r _ _ (by decide) (by decide) (by decide), up_eq]
  have b079 : B0 79 = fillF (σ 79) 0 5 := by
    rw [hB0, ← mu 79 (by decide) (by decide), ← obM_r μ (show 79 ≠ 69 by decide) (show 79 ≠ 71 by decide) nr]; rfl
  have b080 : B0 80 = fillF (σ 80) 0 5 := by
    rw [hB0, ← mu 80 (by decide) (by decide), ← obM_r μ (show 80 ≠ 69 by decide) (show 80 ≠ 71 by decide) nr]; rfl
  have b081 : B0 81 = fillF (σ 81) (-1) 5 := by
    rw [hB0, ← mu 81 (by decide) (by decide), ← obM_r μ (show 81 ≠ 69 by decide) (show 81 ≠ 71 by decide) nr]; rfl
  have hop : ∀ i, (A0 28 i = B0 69 i ∧ A0 30 i = B0 71 i) ∧ ((i < nr ∧ σ 28 i = 1 ∧ A0 28 i = 0 ∧ A0 30 i = -1) ∨ (A0 28 i = σ 28 i ∧ A0 30 i = σ 30 i)) := fun i => by
    rw [a028, a030, b069, b071]
    obtain ⟨p1, p2⟩ := opC_at (σ := σ) 40 i
    obtain ⟨q1, q2⟩ := obM_at (σ := μ) nr i
    rw [mu 69 (by decide) (by decide)] at q1 q2
    rw [mu 71 (by decide) (by decide)] at q2
    by_cases h : i < nr ∧ σ 28 i = 1
    · obtain ⟨g1, g2⟩ := p1 ⟨by omega, (i1 i (by omega)).mpr h.1, h.2⟩
      obtain ⟨k1, k2⟩ := q1 ⟨h.1, by rw [← a28]; exact h.2⟩
      rw [g1, g2, k1, k2]
      exact ⟨⟨rfl, rfl⟩, Or.inl ⟨h.1, h.2, rfl, rfl⟩⟩
    · obtain ⟨g1, g2⟩ := p2 (fun z => h ⟨(i1 i z.1).mp z.2.1, z.2.2⟩)
      obtain ⟨k1, k2⟩ := q2 (fun z => h ⟨z.1, by rw [a28]; exact z.2⟩)
      rw [g1, g2, k1, k2]
      exact ⟨⟨congrFun a28 i, congrFun a30 i⟩, Or.inr ⟨rfl, rfl⟩⟩
  have hJ0 : FJ nr m σ A0 B0 := by
    refine ⟨⟨funext (fun i => (hop i).1.1), funext (fun i => (hop i).1.2), ?_⟩, fun i hi => ?_, fun i hi => ?_, ⟨?_, ?_⟩, fun r hr => ?_, ?_, fun r hr => ?_⟩
    · rw [a08, b079, a8]
    · rcases (hop i).2 with ⟨-, g2, g3, g4⟩ | ⟨g1, g2⟩
      · refine Or.inr (Or.inl ⟨g3, g4, ?_⟩)
        rcases hRF i hi with q | q | q
        · exact q.2.2
        · exact q.2.2
        · rw [g2] at q; exact absurd q.1 (by decide)
      · rw [g1, g2]; exact hRF i hi
    · rcases (hop i).2 with ⟨g1, -⟩ | ⟨g1, g2⟩
      · exact absurd g1 (by omega)
      · rw [g1]; exact (hRE1 i hi).1
    · rw [rA0 9 (by decide) (by decide) (by decide) (by decide) (by decide)]
    · rw [rA0 9 (by decide) (by decide) (by decide) (by decide) (by decide), b060]
      refine hRC.2.2.1.imp id (fun ⟨q, h1, h2, h3, h4⟩ => ⟨q, h1, h2, h3, ?_⟩)
      rcases (hop q).2 with g | g
      · rw [h4] at g; exact absurd g.2.1 (by decide)
      · rw [g.1]; exact h4
    · exact rA0 r (by omega) (by omega) (by omega) (by omega) (by omega)
    · rw [a00]; exact pk_us
    · rw [rB0 r (by omega) (by omega) (by omega) (by omega) (by omega) (by omega), mu r (by omega) (by omega)]
  obtain ⟨hJ, hNN⟩ := FJ_fill a33 hRB (val_eq a33 a23 a5 hRB) i1 hHZ.1 hnr hmb 40 A0 B0 hJ0
  rw [← hA1, ← hB1] at hJ
  rw [← hN] at hNN
  obtain ⟨⟨j28, j30, j8⟩, jF, jE, ⟨j91, j90⟩, jA, j09, jB⟩ := hJ
  have rT : ∀ r, r ≠ 81 → T r = B1 r := fun r h => by rw [hT]; exact ofM_r B1 m h 5
  have rB1 : ∀ r, r ≠ 79 → r ≠ 69 → r ≠ 71 → r ≠ 60 → B1 r = B0 r := fun r h1 h2 h3 h4 => by rw [hB1]; exact fiB_r h1 h2 h3 h4 40 B0
  have tL : ∀ r, r < 60 → r ≠ 7 → T r = A1 r := fun r h1 h2 => by rw [rT r (by omega), rB1 r (by omega) (by omega) (by omega) (by omega), rB0 r (by omega) (by omega) (by omega) (by omega) (by omega) (by omega), muL r h1, rAf r h2]
  have tS : ∀ r, (0 < r ∧ r < 7 ∨ 9 < r ∧ r < 28 ∨ r = 29 ∨ 30 < r ∧ r < 60) → T r = σ r := fun r h => by rw [tL r (by omega) (by omega), jA r h]
  have tM : ∀ r, (60 < r ∧ r < 69 ∨ r = 70 ∨ 71 < r ∧ r < 79 ∨ 81 < r ∧ r < 99) → T r = σ r := fun r h => by rw [rT r (by omega), jB r h]
  have t0 : T 0 = upd (σ 0) 9 (nI m) := by rw [tL 0 (by decide) (by decide), rA1 0 (by decide) (by decide) (by decide) (by decide), a00]
  have t80 : T 80 = fillF (σ 80) 0 5 := by rw [rT 80 (by decide), rB1 80 (by decide) (by decide) (by decide) (by decide), b080]
  have t60 : ∀ k, k ≠ 23 → T 60 k = upd (upd (σ 60) 0 0) 18 (nI m) k := fun k h => by rw [rT 60 (by decide), hB1, fiB_0 h, b060]
  have t60n : ∀ k, k ≠ 23 → k ≠ 0 → k ≠ 18 → T 60 k = σ 60 k := fun k h1 h2 h3 => by rw [t60 k h1, pk_un h3, pk_un h2]
  have t23 : T 60 23 = B1 60 23 := by rw [rT 60 (by decide)]
  have a17 : A1 7 = fillF (σ 7) (-1) 5 := by rw [rA1 7 (by decide) (by decide) (by decide) (by decide), a07]
  have h7 : ∀ b, b < 5 → A1 7 b = -1 := fun b hb => by rw [a17]; exact fillF_at hb
  have h75 : ∀ b, 5 ≤ b → A1 7 b = B1 81 b := fun b hb => by rw [a17, rB1 81 (by decide) (by decide) (by decide) (by decide), b081, a7]
  have h16 : A1 6 = B1 82 := by rw [jA 6 (by omega), jB 82 (by omega), a6]
  have e7 : Af 7 = ofM B1 m 5 81 := by rw [hAf]; exact off_eq hmb j09 h7 h75 h16 j8
  have t7 : T 7 = Af 7 := by rw [rT 7 (by decide), rB1 7 (by decide) (by decide) (by decide) (by decide), rB0 7 (by decide) (by decide) (by decide) (by decide) (by decide) (by decide), muL 7 (by decide)]
  have t781 : T 7 = T 81 := by rw [t7, e7, hT]
  obtain ⟨g7a, g7b, g7c⟩ := off_RG hmb j09 h7
  rw [← hAf, ← t7] at g7a g7b g7c
  have b28 : T 28 = T 69 := by rw [tL 28 (by decide) (by decide), rT 69 (by decide), j28]
  have b30 : T 30 = T 71 := by rw [tL 30 (by decide) (by decide), rT 71 (by decide), j30]
  have b8 : T 8 = T 79 := by rw [tL 8 (by decide) (by decide), rT 79 (by decide), j8]
  have hRBT : RB T := by
    unfold RB
    rw [tS 34 (by omega), tS 35 (by omega), tS 36 (by omega), tM 74 (by omega), tS 52 (by omega), tS 53 (by omega), tS 54 (by omega), tM 94 (by omega)]
    exact hRB
  have hMA : ML nr ng np nb Af := by
    unfold ML
    rw [rS 60 (by decide), rS 74 (by decide), rS 73 (by decide), rS 93 (by decide), rS 64 (by decide), rS 87 (by decide), rS 81 (by decide)]
    exact hML
  refine ⟨hMA, cd1_t ⟨?_, ?_⟩, by rw [hNN], ?_, ?_, m, hmb, ⟨⟨?_, ?_, ⟨?_, i4⟩, ?_, ?_, ⟨?_, hmb⟩, ?_, fun p hp => ?_, ?_⟩, ⟨?_, ?_⟩, ?_, ?_, hRBT, ⟨?_, ?_, ?_, ?_⟩, ?_, ?_, fun p hp => ?_, ?_, fun p hp => ?_, ⟨g7a, g7b, fun a ha => ?_⟩, ?_⟩⟩
  · exact (nI_leI (a := 1) (by decide) (by omega)).mpr hma
  · exact (nI_leI (b := 5) (by omega) (by decide)).mpr hmb
  · rw [t60 0 (by decide), pk_un (by decide)]; exact pk_us
  · rw [rT 99 (by decide), rB1 99 (by decide) (by decide) (by decide) (by decide), rB0 99 (by decide) (by decide) (by decide) (by decide) (by decide) (by decide), hμ]; rfl
  · unfold PRs; rw [tS 2 (by omega)]; exact i1
  · unfold PGs; rw [tS 11 (by omega)]; exact i2
  · rw [t0, pk_un (by decide)]; exact i3
  · rw [t0, pk_un (by decide)]; exact i5
  · rw [t0, pk_un (by decide)]; exact i6
  · rw [t0]; exact pk_us
  · unfold tOK
    rw [tL 9 (by decide) (by decide)]
    exact j90.imp (fun z => z.1) (fun ⟨q, h1, h2, _⟩ => ⟨q, h1, h2⟩)
  · have h := i10 p hp
    unfold qualC at h ⊢
    rw [tS 33 (by omega), tS 34 (by omega), tS 35 (by omega), tS 36 (by omega)]; exact h
  · rw [tS 1 (by omega)]; exact i11
  · rw [tS 2 (by omega)]; exact hHZ.1
  · rw [tS 11 (by omega)]; exact hHZ.2
  · unfold ML
    rw [t60n 1 (by decide) (by decide) (by decide), t60n 3 (by decide) (by decide) (by decide), t60n 26 (by decide) (by decide) (by decide), t60 18 (by decide), pk_us, t23, tM 74 (by omega), tM 73 (by omega), tM 93 (by omega), tM 64 (by omega), tM 87 (by omega), ← t781]
    refine ⟨hm1, hm3, hm26, rfl, hnp, hnr, hng, hmb, hb, hsc, hlc, hpa, hro, fun b hb => ?_, ?_⟩
    · exact (g7a b hb).imp id (fun ⟨a, h1, h2⟩ => ⟨a, by omega, h2⟩)
    · exact j90.imp (fun z => z.2) (fun ⟨q, h1, _, h3, _⟩ => ⟨q, h1, h3⟩)
  · unfold RA
    rw [tS 1 (by omega), tM 62 (by omega), tS 21 (by omega), tM 64 (by omega), tS 23 (by omega), tM 65 (by omega), tS 24 (by omega), tM 66 (by omega), tS 25 (by omega), tM 67 (by omega), tS 26 (by omega), tM 68 (by omega), tS 29 (by omega), tM 70 (by omega), tS 31 (by omega), tM 72 (by omega), tS 32 (by omega), tM 75 (by omega), tS 33 (by omega), tM 73 (by omega), tS 3 (by omega), tM 76 (by omega), tS 5 (by omega), tM 77 (by omega), tS 6 (by omega), tM 82 (by omega), tS 10 (by omega), tM 85 (by omega), tS 40 (by omega), tM 87 (by omega), tS 47 (by omega), tM 88 (by omega), tS 44 (by omega), tM 89 (by omega), tS 45 (by omega), tM 90 (by omega), tS 43 (by omega), tM 91 (by omega), tS 48 (by omega), tM 92 (by omega), tS 50 (by omega), tM 95 (by omega), tS 51 (by omega), tM 93 (by omega), tS 12 (by omega), tM 96 (by omega), tS 14 (by omega), tM 97 (by omega)]
    exact ⟨a1, a21, a23, a24, a25, a26, b28, a29, b30, a31, a32, a33, a3, a5, b8, t781, a6, a10, a40, a47, a44, a45, a43, a48, a50, a51, a12, a14⟩
  · rw [tL 9 (by decide) (by decide), j91, t60n 24 (by decide) (by decide) (by decide)]; exact hRC.1
  · rw [tL 9 (by decide) (by decide), j91]; exact hRC.2.1
  · rw [tL 9 (by decide) (by decide), t23, tL 28 (by decide) (by decide)]; exact j90
  · rw [t0, pk_un (by decide), t60n 38 (by decide) (by decide) (by decide)]; exact hRC.2.2.2
  · unfold RD1 pitM
    rw [tS 20 (by omega), tS 22 (by omega), tS 23 (by omega), tS 26 (by omega), tM 62 (by omega), tM 64 (by omega)]; exact hRD1
  · unfold RD2 orgM pitM
    rw [tS 41 (by omega), tS 42 (by omega), tS 47 (by omega), tM 67 (by omega), tM 87 (by omega), tM 62 (by omega), tM 64 (by omega)]; exact hRD2
  · rw [tL 28 (by decide) (by decide), tS 31 (by omega), tS 32 (by omega), tS 33 (by omega), tS 34 (by omega), tS 35 (by omega), tS 36 (by omega)]
    exact ⟨jE p hp, (hRE1 p hp).2⟩
  · unfold RE2
    rw [tS 50 (by omega), tS 51 (by omega), tS 52 (by omega), tS 53 (by omega), tS 54 (by omega)]; exact hRE2
  · rw [tL 28 (by decide) (by decide), tL 30 (by decide) (by decide), tS 29 (by omega)]
    rcases jF p hp with g | g | g
    · exact Or.inl g
    · exact Or.inr (Or.inl g)
    · exact Or.inr (Or.inr g)
  · rw [t80]
    refine ⟨fun _ => g7c a ha, fun _ => fillF_at (by omega)⟩
  · exact RH_cg (σ := σ) (tM 62 (by omega)) (tM 64 (by omega)) (tM 65 (by omega)) (tS 13 (by omega)) (tS 14 (by omega)) hRH
theorem E_boxes {nr ng np nb : Nat} {σ : Mm} (x : Int32) (hI : INV nr ng np nb σ) : ((fun E : String => E = sIAE ∧ ¬ (1 ≤ x ∧ x ≤ 5)) sIAE → cd1 (1 ≤ x ∧ x ≤ 5) = 1) := by
  have hI0 := hI
  obtain ⟨hIC, hHZ, hML, hRA, hRB, hRC, hRD1, hRD2, hRE1, hRE2, hRF, hRG, hRH⟩ := hI
  have hRA2 := hRA
  obtain ⟨a1, a21, a23, a24, a25, a26, a28, a29, a30, a31, a32, a33, a3, a5, a8, a7, a6, a10, a40, a47, a44, a45, a43, a48, a50, a51, a12, a14⟩ := hRA2
  have hML2 := hML
  obtain ⟨hm1, hm3, hm26, hm18, hnp, hnr, hng, hnb5, hb, hsc, hlc, hpa, hro, hof, hte⟩ := hML2
  have hIC2 := hIC
  obtain ⟨i1, i2, ⟨i3, i4⟩, i5, i6, ⟨i7, i8⟩, i9, i10, i11⟩ := hIC2
  intro h
  obtain ⟨_, h1⟩ := h
  exact cd1_1 h1
set_option maxRecDepth 10000 in
set_option maxHeartbeats 1000000 in
theorem S_boxValue {nr ng np nb : Nat} {σ σ2 : Mm} {ov : Int32} (x : Int32) (hI : INV nr ng np nb σ) (hp : ∃ j, j < nb ∧ x = nI j ∧ ov = iF (offd σ (nI j)) (bvC σ (nI j) 40) (-1) ∧ σ2 = σ) : (ML nr ng np nb (up σ2 99 0 ov)) ∧ cd1 (0 ≤ x ∧ x < nI nb) = 0 ∧ ov = iF ((up (up σ2 99 0 ov) 60 0 0) 80 x.toNatClampNeg = 0) (bvM (up (up σ2 99 0 ov) 60 0 0) x nr) (-1) ∧ ((up (up σ2 99 0 ov) 60 0 0)) 60 0 = 0 ∧ ((up (up σ2 99 0 ov) 60 0 0)) 99 0 = ov ∧ INV nr ng np nb ((up (up σ2 99 0 ov) 60 0 0)) := by
  have hI0 := hI
  obtain ⟨hIC, hHZ, hML, hRA, hRB, hRC, hRD1, hRD2, hRE1, hRE2, hRF, hRG, hRH⟩ := hI
  have hRA2 := hRA
  obtain ⟨a1, a21, a23, a24, a25, a26, a28, a29, a30, a31, a32, a33, a3, a5, a8, a7, a6, a10, a40, a47, a44, a45, a43, a48, a50, a51, a12, a14⟩ := hRA2
  have hML2 := hML
  obtain ⟨hm1, hm3, hm26, hm18, hnp, hnr, hng, hnb5, hb, hsc, hlc, hpa, hro, hof, hte⟩ := hML2
  have hIC2 := hIC
  obtain ⟨i1, i2, ⟨i3, i4⟩, i5, i6, ⟨i7, i8⟩, i9, i10, i11⟩ := hIC2
  obtain ⟨j, hj, rfl, rfl, rfl⟩ := hp
  refine ⟨hML, cd1_t (nI_rg hj (by omega)), ?_, rfl, rfl, INV_60 0 (INV_99 _ hI0)⟩
  rw [nI_clamp (by omega)]
  repeat rw [bvM_up (by decide)]
  show iF (offd σ2 (nI j)) (bvC σ2 (nI j) 40) (-1) = iF (σ2 80 j = 0) (bvM σ2 (nI j) nr) (-1)
  have hb2 := bv_eq (nI_nem1 (j := j) (by omega)) i1 hHZ.1 hRF a28 a30 (val_eq a33 a23 a5 hRB) hnr 40 (Nat.le_refl _)
  rw [show Nat.min 40 nr = nr from Nat.min_eq_right hnr] at hb2
  rw [hb2]
  exact iF_cg (hRG.2.2 j hj).symm (fun _ => rfl) (fun _ => rfl)
theorem E_boxValue {nr ng np nb : Nat} {σ : Mm} (x : Int32) (hI : INV nr ng np nb σ) : ((fun E : String => E = sIOB ∧ ¬ (0 ≤ x ∧ x < nI nb)) sIOB → cd1 (0 ≤ x ∧ x < nI nb) = 1) := by
  have hI0 := hI
  obtain ⟨hIC, hHZ, hML, hRA, hRB, hRC, hRD1, hRD2, hRE1, hRE2, hRF, hRG, hRH⟩ := hI
  have hRA2 := hRA
  obtain ⟨a1, a21, a23, a24, a25, a26, a28, a29, a30, a31, a32, a33, a3, a5, a8, a7, a6, a10, a40, a47, a44, a45, a43, a48, a50, a51, a12, a14⟩ := hRA2
  have hML2 := hML
  obtain ⟨hm1, hm3, hm26, hm18, hnp, hnr, hng, hnb5, hb, hsc, hlc, hpa, hro, hof, hte⟩ := hML2
  have hIC2 := hIC
  obtain ⟨i1, i2, ⟨i3, i4⟩, i5, i6, ⟨i7, i8⟩, i9, i10, i11⟩ := hIC2
  intro h
  obtain ⟨_, h1⟩ := h
  exact cd1_1 h1
set_option maxRecDepth 10000 in
set_option maxHeartbeats 1000000 in
theorem S_offered {nr ng np nb : Nat} {σ σ2 : Mm} {ov : Int32} (x : Int32) (hI : INV nr ng np nb σ) (hp : ∃ j, j < 5 ∧ x = nI j ∧ ov = σ 7 j ∧ σ2 = σ) : (ML nr ng np nb (up σ2 99 0 ov)) ∧ cd1 (0 ≤ x ∧ x < 5) = 0 ∧ ov = (up (up σ2 99 0 ov) 60 0 0) 81 x.toNatClampNeg ∧ ((up (up σ2 99 0 ov) 60 0 0)) 60 0 = 0 ∧ ((up (up σ2 99 0 ov) 60 0 0)) 99 0 = ov ∧ INV nr ng np nb ((up (up σ2 99 0 ov) 60 0 0)) := by
  have hI0 := hI
  obtain ⟨hIC, hHZ, hML, hRA, hRB, hRC, hRD1, hRD2, hRE1, hRE2, hRF, hRG, hRH⟩ := hI
  have hRA2 := hRA
  obtain ⟨a1, a21, a23, a24, a25, a26, a28, a29, a30, a31, a32, a33, a3, a5, a8, a7, a6, a10, a40, a47, a44, a45, a43, a48, a50, a51, a12, a14⟩ := hRA2
  have hML2 := hML
  obtain ⟨hm1, hm3, hm26, hm18, hnp, hnr, hng, hnb5, hb, hsc, hlc, hpa, hro, hof, hte⟩ := hML2
  have hIC2 := hIC
  obtain ⟨i1, i2, ⟨i3, i4⟩, i5, i6, ⟨i7, i8⟩, i9, i10, i11⟩ := hIC2
  obtain ⟨j, hj, rfl, rfl, rfl⟩ := hp
  refine ⟨hML, cd1_t (nI_rg (N := 5) hj (by decide)), ?_, rfl, rfl, INV_60 0 (INV_99 _ hI0)⟩
  rw [nI_clamp (by omega)]
  show σ2 7 j = σ2 81 j
  rw [a7]
theorem E_offered {nr ng np nb : Nat} {σ : Mm} (x : Int32) (hI : INV nr ng np nb σ) : ((fun E : String => E = sIOB ∧ ¬ (0 ≤ x ∧ x < nI 5)) sIOB → cd1 (0 ≤ x ∧ x < 5) = 1) := by
  have hI0 := hI
  obtain ⟨hIC, hHZ, hML, hRA, hRB, hRC, hRD1, hRD2, hRE1, hRE2, hRF, hRG, hRH⟩ := hI
  have hRA2 := hRA
  obtain ⟨a1, a21, a23, a24, a25, a26, a28, a29, a30, a31, a32, a33, a3, a5, a8, a7, a6, a10, a40, a47, a44, a45, a43, a48, a50, a51, a12, a14⟩ := hRA2
  have hML2 := hML
  obtain ⟨hm1, hm3, hm26, hm18, hnp, hnr, hng, hnb5, hb, hsc, hlc, hpa, hro, hof, hte⟩ := hML2
  have hIC2 := hIC
  obtain ⟨i1, i2, ⟨i3, i4⟩, i5, i6, ⟨i7, i8⟩, i9, i10, i11⟩ := hIC2
  intro h
  obtain ⟨_, h1⟩ := h
  exact cd1_1 h1
set_option maxRecDepth 10000 in
set_option maxHeartbeats 1000000 in
theorem S_take {nr ng np nb : Nat} {σ σ2 : Mm} {ov : Int32} (x t : Int32) (hI : INV nr ng np nb σ) (hp : ∃ j, j < 5 ∧ x = nI j ∧ ¬ σ 7 j = -1 ∧ ov = chg (σ 6 j) (iF (t = 0) (-10) 5) ∧ σ2 = (up (up (tkC σ (σ 7 j) (nI j) t 40) 7 j (-1)) 6 j (chg (σ 6 j) (iF (t = 0) (-10) 5)))) : (ML nr ng np nb (up σ2 99 0 ov)) ∧ cd2 (0 ≤ x ∧ x < 5) (¬ (up σ2 99 0 ov) 81 x.toNatClampNeg = -1) = 0 ∧ ov = chg ((up (up σ2 99 0 ov) 60 0 0) 82 x.toNatClampNeg) (iF (t = 0) (-10) 5) ∧ (up (up (up (tkM (up (up σ2 99 0 ov) 60 0 0) ((up (up σ2 99 0 ov) 60 0 0) 81 x.toNatClampNeg) x t nr) 80 ((up (up σ2 99 0 ov) 60 0 0) 81 x.toNatClampNeg).toNatClampNeg 1) 81 x.toNatClampNeg (-1)) 82 x.toNatClampNeg (chg ((up (up σ2 99 0 ov) 60 0 0) 82 x.toNatClampNeg) (iF (t = 0) (-10) 5))) 60 0 = 0 ∧ (up (up (up (tkM (up (up σ2 99 0 ov) 60 0 0) ((up (up σ2 99 0 ov) 60 0 0) 81 x.toNatClampNeg) x t nr) 80 ((up (up σ2 99 0 ov) 60 0 0) 81 x.toNatClampNeg).toNatClampNeg 1) 81 x.toNatClampNeg (-1)) 82 x.toNatClampNeg (chg ((up (up σ2 99 0 ov) 60 0 0) 82 x.toNatClampNeg) (iF (t = 0) (-10) 5))) 99 0 = ov ∧ INV nr ng np nb (up (up (up (tkM (up (up σ2 99 0 ov) 60 0 0) ((up (up σ2 99 0 ov) 60 0 0) 81 x.toNatClampNeg) x t nr) 80 ((up (up σ2 99 0 ov) 60 0 0) 81 x.toNatClampNeg).toNatClampNeg 1) 81 x.toNatClampNeg (-1)) 82 x.toNatClampNeg (chg ((up (up σ2 99 0 ov) 60 0 0) 82 x.toNatClampNeg) (iF (t = 0) (-10) 5))) := by
  have hI0 := hI
  obtain ⟨hIC, hHZ, hML, hRA, hRB, hRC, hRD1, hRD2, hRE1, hRE2, hRF, hRG, hRH⟩ := hI
  have hRA2 := hRA
  obtain ⟨a1, a21, a23, a24, a25, a26, a28, a29, a30, a31, a32, a33, a3, a5, a8, a7, a6, a10, a40, a47, a44, a45, a43, a48, a50, a51, a12, a14⟩ := hRA2
  have hML2 := hML
  obtain ⟨hm1, hm3, hm26, hm18, hnp, hnr, hng, hnb5, hb, hsc, hlc, hpa, hro, hof, hte⟩ := hML2
  have hIC2 := hIC
  obtain ⟨i1, i2, ⟨i3, i4⟩, i5, i6, ⟨i7, i8⟩, i9, i10, i11⟩ := hIC2
  obtain ⟨j, hj, rfl, h7, rfl, rfl⟩ := hp
  obtain ⟨a0, ha0, ha0e⟩ : ∃ a, a < nb ∧ σ 7 j = nI a := (hRG.1 j hj).resolve_left h7
  have hx1 : ¬ nI a0 = -1 := nI_nem1 (by omega)
  rw [nI_clamp (by omega)]
  obtain ⟨v, hv⟩ : ∃ v, v = chg (σ 6 j) (iF (t = 0) (-10) 5) := ⟨_, rfl⟩
  obtain ⟨τ, hτ⟩ : ∃ τ, τ = tkC σ (σ 7 j) (nI j) t 40 := ⟨_, rfl⟩
  rw [← hv, ← hτ]
  rw [ha0e] at hτ
  have rC : ∀ r, r ≠ 28 → r ≠ 30 → r ≠ 29 → τ r = σ r := fun r h1 h2 h3 => by rw [hτ]; exact tkC_r σ _ _ t h1 h2 h3 40
  obtain ⟨μ, hμ⟩ : ∃ μ, μ = up (up (up (up τ 7 j (-1)) 6 j v) 99 0 v) 60 0 0 := ⟨_, rfl⟩
  rw [← hμ]
  have rU : ∀ r, r ≠ 7 → r ≠ 6 → r ≠ 99 → r ≠ 60 → μ r = τ r := fun r h1 h2 h3 h4 => by rw [hμ, up_ne h4, up_ne h3, up_ne h2, up_ne h1]
  have e81 : μ 81 j = nI a0 := by rw [rU 81 (by decide) (by decide) (by decide) (by decide), rC 81 (by decide) (by decide) (by decide), ← a7]; exact ha0e
  have e82 : μ 82 j = σ 6 j := by rw [rU 82 (by decide) (by decide) (by decide) (by decide), rC 82 (by decide) (by decide) (by decide), ← a6]
  rw [e81, e82, nI_clamp (by omega), ← hv]
  obtain ⟨M, hM⟩ : ∃ M, M = tkM μ (nI a0) (nI j) t nr := ⟨_, rfl⟩
  rw [← hM]
  have rM : ∀ r, r ≠ 69 → r ≠ 70 → r ≠ 71 → M r = μ r := fun r h1 h2 h3 => by rw [hM]; exact tkM_r μ _ _ t h1 h2 h3 nr
  have hMτ : ML nr ng np nb τ := by
    unfold ML
    rw [rC 60 (by decide) (by decide) (by decide), rC 74 (by decide) (by decide) (by decide), rC 73 (by decide) (by decide) (by decide), rC 93 (by decide) (by decide) (by decide), rC 64 (by decide) (by decide) (by decide), rC 87 (by decide) (by decide) (by decide), rC 81 (by decide) (by decide) (by decide)]
    exact hML
  have hM60 : M 60 = upd (σ 60) 0 0 := by
    rw [rM 60 (by decide) (by decide) (by decide), hμ, ← rC 60 (by decide) (by decide) (by decide)]; rfl
  refine ⟨hMτ, cd2_t ⟨nI_rg (N := 5) hj (by decide), ?_⟩, rfl, ?_, ?_, ?_⟩
  · show ¬ τ 81 j = -1
    rw [rC 81 (by decide) (by decide) (by decide), ← a7]; exact h7
  · show M 60 0 = 0
    rw [hM60]; exact pk_us
  · show M 99 0 = v
    rw [rM 99 (by decide) (by decide) (by decide), hμ]; rfl
  · obtain ⟨T, hT⟩ : ∃ T, T = up (up (up M 80 a0 1) 81 j (-1)) 82 j v := ⟨_, rfl⟩
    rw [← hT]
    have rT : ∀ r, (r < 6 ∨ (7 < r ∧ r < 28) ∨ (30 < r ∧ r < 60) ∨ (60 < r ∧ r < 69) ∨ (71 < r ∧ r < 80) ∨ (82 < r ∧ r < 99)) → T r = σ r := fun r h => by
      rw [hT, up_ne (by omega), up_ne (by omega), up_ne (by omega), rM r (by omega) (by omega) (by omega), rU r (by omega) (by omega) (by omega) (by omega), rC r (by omega) (by omega) (by omega)]
    have t60 : T 60 = upd (σ 60) 0 0 := by rw [hT]; exact hM60
    have t7 : T 7 = upd (σ 7) j (-1) := by
      rw [hT]; show M 7 = _
      rw [rM 7 (by decide) (by decide) (by decide), hμ, ← rC 7 (by decide) (by decide) (by decide)]; rfl
    have t6 : T 6 = upd (σ 6) j v := by
      rw [hT]; show M 6 = _
      rw [rM 6 (by decide) (by decide) (by decide), hμ, ← rC 6 (by decide) (by decide) (by decide)]; rfl
    have m80 : M 80 = σ 80 := by rw [rM 80 (by decide) (by decide) (by decide), rU 80 (by decide) (by decide) (by decide) (by decide), rC 80 (by decide) (by decide) (by decide)]
    have m81 : M 81 = σ 81 := by rw [rM 81 (by decide) (by decide) (by decide), rU 81 (by decide) (by decide) (by decide) (by decide), rC 81 (by decide) (by decide) (by decide)]
    have m82 : M 82 = σ 82 := by rw [rM 82 (by decide) (by decide) (by decide), rU 82 (by decide) (by decide) (by decide) (by decide), rC 82 (by decide) (by decide) (by decide)]
    have t80 : T 80 = upd (σ 80) a0 1 := by rw [hT, ← m80]; rfl
    have t81 : T 81 = upd (σ 81) j (-1) := by rw [hT, ← m81]; rfl
    have t82 : T 82 = upd (σ 82) j v := by rw [hT, ← m82]; rfl
    have mu : ∀ r, (r = 69 ∨ r = 70 ∨ r = 71) → μ r = σ r := fun r h => by
      rw [rU r (by omega) (by omega) (by omega) (by omega), rC r (by omega) (by omega) (by omega)]
    have tC : ∀ r, (r = 28 ∨ r = 29 ∨ r = 30) → T r = τ r := fun r h => by
      rw [hT, up_ne (by omega), up_ne (by omega), up_ne (by omega), rM r (by omega) (by omega) (by omega), rU r (by omega) (by omega) (by omega) (by omega)]
    have tM : ∀ r, (r = 69 ∨ r = 70 ∨ r = 71) → T r = M r := fun r h => by
      rw [hT, up_ne (by omega), up_ne (by omega), up_ne (by omega)]
    have hcond : ∀ i, (i < 40 ∧ ¬ σ 2 i = 0 ∧ σ 30 i = nI a0) ↔ (i < nr ∧ σ 69 i = 1 ∧ σ 71 i = nI a0) := fun i => by
      rw [← a28, ← a30]
      constructor
      · rintro ⟨g1, g2, g3⟩
        have g4 := (i1 i g1).mp g2
        refine ⟨g4, ?_, g3⟩
        rcases hRF i g4 with q | q | q
        · exact q.1
        · exact absurd (g3.symm.trans q.2.1) hx1
        · exact absurd (g3.symm.trans q.2) hx1
      · rintro ⟨g1, -, g3⟩
        exact ⟨by omega, (i1 i (by omega)).mpr g1, g3⟩
    have hall : ∀ i, (T 28 i = T 69 i ∧ T 29 i = T 70 i ∧ T 30 i = T 71 i) ∧ ((i < nr ∧ σ 28 i = 1 ∧ T 30 i = -1 ∧ ((T 28 i = 0 ∧ T 29 i = -1) ∨ T 28 i = 2)) ∨ (T 28 i = σ 28 i ∧ T 29 i = σ 29 i ∧ T 30 i = σ 30 i)) := fun i => by
      rw [tC 28 (by decide), tC 29 (by decide), tC 30 (by decide), tM 69 (by decide), tM 70 (by decide), tM 71 (by decide), hτ, hM]
      obtain ⟨p1, p2⟩ := tkC_at (σ := σ) (x := nI a0) (b := nI j) (t := t) 40 i
      obtain ⟨q1, q2⟩ := tkM_at (σ := μ) (x := nI a0) (b := nI j) (t := t) nr i
      rw [mu 69 (by decide), mu 71 (by decide)] at q1
      rw [mu 69 (by decide), mu 70 (by decide), mu 71 (by decide)] at q2
      by_cases h : i < nr ∧ σ 69 i = 1 ∧ σ 71 i = nI a0
      · obtain ⟨g1, g2, g3⟩ := p1 ((hcond i).mpr h)
        obtain ⟨k1, k2, k3⟩ := q1 h
        have h28 : σ 28 i = 1 := by rw [a28]; exact h.2.1
        have h29 : σ 29 i = -1 := by
          rcases hRF i h.1 with q | q | q
          · exact q.2.2
          · exact q.2.2
          · rw [h28] at q; exact absurd q.1 (by decide)
        rw [g1, g2, g3, k1, k2, k3, h29]
        refine ⟨⟨rfl, rfl, rfl⟩, Or.inl ⟨h.1, h28, rfl, ?_⟩⟩
        by_cases q : t = 0
        · rw [iF_t q, iF_t q]; exact Or.inl ⟨rfl, rfl⟩
        · rw [iF_f q, iF_f q]; exact Or.inr rfl
      · obtain ⟨g1, g2, g3⟩ := p2 (fun z => h ((hcond i).mp z))
        obtain ⟨k1, k2, k3⟩ := q2 h
        rw [g1, g2, g3, k1, k2, k3]
        exact ⟨⟨congrFun a28 i, congrFun a29 i, congrFun a30 i⟩, Or.inr ⟨rfl, rfl, rfl⟩⟩
    have b28 : T 28 = T 69 := funext (fun i => (hall i).1.1)
    have b29 : T 29 = T 70 := funext (fun i => (hall i).1.2.1)
    have b30 : T 30 = T 71 := funext (fun i => (hall i).1.2.2)
    have t6n : ∀ k, k ≠ 0 → T 60 k = σ 60 k := fun k h => by rw [t60, pk_un h]
    have hRBT : RB T := by
      unfold RB
      rw [rT 34 (by omega), rT 35 (by omega), rT 36 (by omega), rT 74 (by omega), rT 52 (by omega), rT 53 (by omega), rT 54 (by omega), rT 94 (by omega)]
      exact hRB
    refine ⟨⟨?_, ?_, ⟨?_, i4⟩, ?_, ?_, ⟨?_, i8⟩, ?_, fun i hi => ?_, ?_⟩, ⟨?_, ?_⟩, ?_, ?_, hRBT, ⟨?_, ?_, ?_, ?_⟩, ?_, ?_, fun i hi => ?_, ?_, fun i hi => ?_, ⟨fun b hb => ?_, fun b c hb hc hbc => ?_, fun a ha => ?_⟩, ?_⟩
    · unfold PRs; rw [rT 2 (by omega)]; exact i1
    · unfold PGs; rw [rT 11 (by omega)]; exact i2
    · rw [rT 0 (by omega)]; exact i3
    · rw [rT 0 (by omega)]; exact i5
    · rw [rT 0 (by omega)]; exact i6
    · rw [rT 0 (by omega)]; exact i7
    · unfold tOK; rw [rT 9 (by omega)]; exact i9
    · have h := i10 i hi
      unfold qualC at h ⊢
      rw [rT 33 (by omega), rT 34 (by omega), rT 35 (by omega), rT 36 (by omega)]; exact h
    · rw [rT 1 (by omega)]; exact i11
    · rw [rT 2 (by omega)]; exact hHZ.1
    · rw [rT 11 (by omega)]; exact hHZ.2
    · unfold ML
      rw [t6n 1 (by decide), t6n 3 (by decide), t6n 26 (by decide), t6n 18 (by decide), t6n 23 (by decide), rT 74 (by omega), rT 73 (by omega), rT 93 (by omega), rT 64 (by omega), rT 87 (by omega), t81]
      exact ⟨hm1, hm3, hm26, hm18, hnp, hnr, hng, hnb5, hb, hsc, hlc, hpa, hro, fun b hb => upd_p (fun v => v = -1 ∨ ∃ a, a < 5 ∧ v = nI a) (Or.inl rfl) (hof b hb), hte⟩
    · unfold RA
      rw [b28, b29, b30, t7, t6, t81, t82, a7, a6, rT 1 (by omega), rT 62 (by omega), rT 21 (by omega), rT 64 (by omega), rT 23 (by omega), rT 65 (by omega), rT 24 (by omega), rT 66 (by omega), rT 25 (by omega), rT 67 (by omega), rT 26 (by omega), rT 68 (by omega), rT 31 (by omega), rT 72 (by omega), rT 32 (by omega), rT 75 (by omega), rT 33 (by omega), rT 73 (by omega), rT 3 (by omega), rT 76 (by omega), rT 5 (by omega), rT 77 (by omega), rT 8 (by omega), rT 79 (by omega), rT 10 (by omega), rT 85 (by omega), rT 40 (by omega), rT 87 (by omega), rT 47 (by omega), rT 88 (by omega), rT 44 (by omega), rT 89 (by omega), rT 45 (by omega), rT 90 (by omega), rT 43 (by omega), rT 91 (by omega), rT 48 (by omega), rT 92 (by omega), rT 50 (by omega), rT 95 (by omega), rT 51 (by omega), rT 93 (by omega), rT 12 (by omega), rT 96 (by omega), rT 14 (by omega), rT 97 (by omega)]
      exact ⟨a1, a21, a23, a24, a25, a26, rfl, rfl, rfl, a31, a32, a33, a3, a5, a8, rfl, rfl, a10, a40, a47, a44, a45, a43, a48, a50, a51, a12, a14⟩
    · rw [rT 9 (by omega), t6n 24 (by decide)]; exact hRC.1
    · rw [rT 9 (by omega)]; exact hRC.2.1
    · rw [rT 9 (by omega), t6n 23 (by decide)]
      refine hRC.2.2.1.imp id (fun ⟨i, h1, h2, h3, h4⟩ => ⟨i, h1, h2, h3, ?_⟩)
      rcases (hall i).2 with g | g
      · rw [h4] at g; exact absurd g.2.1 (by decide)
      · rw [g.1]; exact h4
    · rw [rT 0 (by omega), t6n 38 (by decide)]; exact hRC.2.2.2
    · unfold RD1 pitM
      rw [rT 20 (by omega), rT 22 (by omega), rT 23 (by omega), rT 26 (by omega), rT 62 (by omega), rT 64 (by omega)]; exact hRD1
    · unfold RD2 orgM pitM
      rw [rT 41 (by omega), rT 42 (by omega), rT 47 (by omega), rT 67 (by omega), rT 87 (by omega), rT 62 (by omega), rT 64 (by omega)]; exact hRD2
    · rw [rT 31 (by omega), rT 32 (by omega), rT 33 (by omega), rT 34 (by omega), rT 35 (by omega), rT 36 (by omega)]
      refine ⟨?_, (hRE1 i hi).2⟩
      rcases (hall i).2 with g | g
      · exact absurd g.1 (by omega)
      · rw [g.1]; exact (hRE1 i hi).1
    · unfold RE2
      rw [rT 50 (by omega), rT 51 (by omega), rT 52 (by omega), rT 53 (by omega), rT 54 (by omega)]; exact hRE2
    · rcases (hall i).2 with ⟨-, -, g3, g4⟩ | g
      · rcases g4 with g | g
        · exact Or.inr (Or.inl ⟨g.1, g3, g.2⟩)
        · exact Or.inr (Or.inr ⟨Or.inl g, g3⟩)
      · rw [g.1, g.2.1, g.2.2]; exact hRF i hi
    · rw [t7]; exact upd_p (fun v => v = -1 ∨ ∃ a, a < nb ∧ v = nI a) (Or.inl rfl) (hRG.1 b hb)
    · rw [t7] at hbc ⊢
      by_cases e1 : b = j
      · rw [e1, pk_us]; exact Or.inl rfl
      · by_cases e2 : c = j
        · rw [e2, pk_us] at hbc; exact Or.inl hbc
        · rw [pk_un e1, pk_un e2] at hbc
          rw [pk_un e1]; exact hRG.2.1 b c hb hc hbc
    · unfold offd
      rw [t7, t80]
      by_cases e : a = a0
      · subst e
        rw [pk_us]
        refine ⟨fun z => absurd z (by decide), ?_⟩
        rintro ⟨b, hb, h⟩
        by_cases e1 : b = j
        · rw [e1, pk_us] at h; exact absurd h.symm hx1
        · rw [pk_un e1] at h
          rcases hRG.2.1 b j hb hj (h.trans ha0e.symm) with z | z
          · exact absurd (h.symm.trans z) hx1
          · exact absurd z e1
      · rw [pk_un e]
        refine (hRG.2.2 a ha).trans ⟨?_, ?_⟩
        · rintro ⟨b, hb, h⟩
          refine ⟨b, hb, ?_⟩
          rw [pk_un]
          · exact h
          · rintro rfl
            have h1 := congrArg Int32.toInt (h.symm.trans ha0e)
            rw [nI_toInt (by omega), nI_toInt (by omega)] at h1
            omega
        · rintro ⟨b, hb, h⟩
          refine ⟨b, hb, ?_⟩
          rwa [pk_un] at h
          rintro rfl
          rw [pk_us] at h
          exact nI_nem1 (by omega) h.symm
    · exact RH_cg (σ := σ) (rT 62 (by omega)) (rT 64 (by omega)) (rT 65 (by omega)) (rT 13 (by omega)) (rT 14 (by omega)) hRH
theorem E_take {nr ng np nb : Nat} {σ : Mm} (x t : Int32) (hI : INV nr ng np nb σ) : ((fun E : String => (E = sIOB ∧ ¬ (0 ≤ x ∧ x < nI 5)) ∨ (E = sISE ∧ (0 ≤ x ∧ x < nI 5) ∧ ∃ j, j < 5 ∧ x = nI j ∧ σ 7 j = -1)) sIOB → cd2 (0 ≤ x ∧ x < 5) (¬ σ 81 x.toNatClampNeg = -1) = 1) ∧ ((fun E : String => (E = sIOB ∧ ¬ (0 ≤ x ∧ x < nI 5)) ∨ (E = sISE ∧ (0 ≤ x ∧ x < nI 5) ∧ ∃ j, j < 5 ∧ x = nI j ∧ σ 7 j = -1)) sISE → cd2 (0 ≤ x ∧ x < 5) (¬ σ 81 x.toNatClampNeg = -1) = 2) := by
  have hI0 := hI
  obtain ⟨hIC, hHZ, hML, hRA, hRB, hRC, hRD1, hRD2, hRE1, hRE2, hRF, hRG, hRH⟩ := hI
  have hRA2 := hRA
  obtain ⟨a1, a21, a23, a24, a25, a26, a28, a29, a30, a31, a32, a33, a3, a5, a8, a7, a6, a10, a40, a47, a44, a45, a43, a48, a50, a51, a12, a14⟩ := hRA2
  have hML2 := hML
  obtain ⟨hm1, hm3, hm26, hm18, hnp, hnr, hng, hnb5, hb, hsc, hlc, hpa, hro, hof, hte⟩ := hML2
  have hIC2 := hIC
  obtain ⟨i1, i2, ⟨i3, i4⟩, i5, i6, ⟨i7, i8⟩, i9, i10, i11⟩ := hIC2
  refine ⟨fun h => ?_, fun h => ?_⟩
  · rcases h with ⟨_, h1⟩ | ⟨h, _⟩
    · exact cd2_1 h1
    · exact absurd h (by decide)
  · rcases h with ⟨h, _⟩ | ⟨_, h1, h2⟩
    · exact absurd h (by decide)
    · obtain ⟨j, hj, rfl, h7⟩ := h2
      exact cd2_2 h1 (fun z => z (by rw [nI_clamp (by omega), ← a7]; exact h7))
set_option maxRecDepth 10000 in
set_option maxHeartbeats 1000000 in
theorem S_tender {nr ng np nb : Nat} {σ σ2 : Mm} (x y : Int32) (hI : INV nr ng np nb σ) (hp : ∃ i, i < nr ∧ x = nI i ∧ (0 ≤ y ∧ y ≤ 999999) ∧ σ 28 i = 0 ∧ σ 9 0 = 0 ∧ σ2 = (upR (up (up σ 9 0 (nI (i + 1))) 9 1 y) 10 (fillF (σ 10) (-1) 5))) : (ML nr ng np nb σ2) ∧ cd3 (0 ≤ x ∧ x < nI nr) (0 ≤ y ∧ y ≤ 999999) (σ2 69 x.toNatClampNeg = 0 ∧ σ2 60 23 = -1) = 0 ∧ (upR (up (up (up σ2 60 0 0) 60 23 x) 60 24 y) 85 (fillF ((up σ2 60 0 0) 85) (-1) 5)) 60 0 = 0 ∧ True ∧ INV nr ng np nb (upR (up (up (up σ2 60 0 0) 60 23 x) 60 24 y) 85 (fillF ((up σ2 60 0 0) 85) (-1) 5)) := by
  have hI0 := hI
  obtain ⟨hIC, hHZ, hML, hRA, hRB, hRC, hRD1, hRD2, hRE1, hRE2, hRF, hRG, hRH⟩ := hI
  have hRA2 := hRA
  obtain ⟨a1, a21, a23, a24, a25, a26, a28, a29, a30, a31, a32, a33, a3, a5, a8, a7, a6, a10, a40, a47, a44, a45, a43, a48, a50, a51, a12, a14⟩ := hRA2
  have hML2 := hML
  obtain ⟨hm1, hm3, hm26, hm18, hnp, hnr, hng, hnb5, hb, hsc, hlc, hpa, hro, hof, hte⟩ := hML2
  have hIC2 := hIC
  obtain ⟨i1, i2, ⟨i3, i4⟩, i5, i6, ⟨i7, i8⟩, i9, i10, i11⟩ := hIC2
  obtain ⟨i, hi, rfl, hy, h28, h90, rfl⟩ := hp
  refine ⟨hML, cd3_t ⟨nI_rg hi (by omega), hy, ?_⟩, rfl, trivial, ?_⟩
  · rw [nI_clamp (by omega)]
    refine ⟨?_, (RC_off hRC hnr).mp h90⟩
    show σ 69 i = 0
    rw [← a28]; exact h28
  · exact ⟨⟨i1, i2, ⟨i3, i4⟩, i5, i6, ⟨i7, i8⟩, Or.inr ⟨i, hi, rfl⟩, i10, i11⟩, hHZ, ⟨hm1, hm3, hm26, hm18, hnp, hnr, hng, hnb5, hb, hsc, hlc, hpa, hro, hof, Or.inr ⟨i, hi, rfl⟩⟩, ⟨a1, a21, a23, a24, a25, a26, a28, a29, a30, a31, a32, a33, a3, a5, a8, a7, a6, (congrArg (fun g => fillF g (-1) 5) a10), a40, a47, a44, a45, a43, a48, a50, a51, a12, a14⟩, hRB, ⟨rfl, hy.1, Or.inr ⟨i, hi, rfl, rfl, h28⟩, hRC.2.2.2⟩, hRD1, hRD2, hRE1, hRE2, hRF, hRG, RH_cg (σ := σ) rfl rfl rfl rfl rfl hRH⟩
theorem E_tender {nr ng np nb : Nat} {σ : Mm} (x y : Int32) (hI : INV nr ng np nb σ) : ((fun E : String => (E = sIOB ∧ ¬ (0 ≤ x ∧ x < nI nr)) ∨ (E = sIAE ∧ (0 ≤ x ∧ x < nI nr) ∧ ¬ (0 ≤ y ∧ y ≤ 999999)) ∨ (E = sISE ∧ (0 ≤ x ∧ x < nI nr) ∧ (0 ≤ y ∧ y ≤ 999999) ∧ ∃ i, i < nr ∧ x = nI i ∧ ¬ (σ 28 i = 0 ∧ σ 9 0 = 0))) sIOB → cd3 (0 ≤ x ∧ x < nI nr) (0 ≤ y ∧ y ≤ 999999) (σ 69 x.toNatClampNeg = 0 ∧ σ 60 23 = -1) = 1) ∧ ((fun E : String => (E = sIOB ∧ ¬ (0 ≤ x ∧ x < nI nr)) ∨ (E = sIAE ∧ (0 ≤ x ∧ x < nI nr) ∧ ¬ (0 ≤ y ∧ y ≤ 999999)) ∨ (E = sISE ∧ (0 ≤ x ∧ x < nI nr) ∧ (0 ≤ y ∧ y ≤ 999999) ∧ ∃ i, i < nr ∧ x = nI i ∧ ¬ (σ 28 i = 0 ∧ σ 9 0 = 0))) sIAE → cd3 (0 ≤ x ∧ x < nI nr) (0 ≤ y ∧ y ≤ 999999) (σ 69 x.toNatClampNeg = 0 ∧ σ 60 23 = -1) = 2) ∧ ((fun E : String => (E = sIOB ∧ ¬ (0 ≤ x ∧ x < nI nr)) ∨ (E = sIAE ∧ (0 ≤ x ∧ x < nI nr) ∧ ¬ (0 ≤ y ∧ y ≤ 999999)) ∨ (E = sISE ∧ (0 ≤ x ∧ x < nI nr) ∧ (0 ≤ y ∧ y ≤ 999999) ∧ ∃ i, i < nr ∧ x = nI i ∧ ¬ (σ 28 i = 0 ∧ σ 9 0 = 0))) sISE → cd3 (0 ≤ x ∧ x < nI nr) (0 ≤ y ∧ y ≤ 999999) (σ 69 x.toNatClampNeg = 0 ∧ σ 60 23 = -1) = 3) := by
  have hI0 := hI
  obtain ⟨hIC, hHZ, hML, hRA, hRB, hRC, hRD1, hRD2, hRE1, hRE2, hRF, hRG, hRH⟩ := hI
  have hRA2 := hRA
  obtain ⟨a1, a21, a23, a24, a25, a26, a28, a29, a30, a31, a32, a33, a3, a5, a8, a7, a6, a10, a40, a47, a44, a45, a43, a48, a50, a51, a12, a14⟩ := hRA2
  have hML2 := hML
  obtain ⟨hm1, hm3, hm26, hm18, hnp, hnr, hng, hnb5, hb, hsc, hlc, hpa, hro, hof, hte⟩ := hML2
  have hIC2 := hIC
  obtain ⟨i1, i2, ⟨i3, i4⟩, i5, i6, ⟨i7, i8⟩, i9, i10, i11⟩ := hIC2
  refine ⟨fun h => ?_, fun h => ?_, fun h => ?_⟩
  · rcases h with ⟨_, h1⟩ | ⟨h, _⟩ | ⟨h, _⟩
    · exact cd3_1 h1
    · exact absurd h (by decide)
    · exact absurd h (by decide)
  · rcases h with ⟨h, _⟩ | ⟨_, h1, h2⟩ | ⟨h, _⟩
    · exact absurd h (by decide)
    · exact cd3_2 h1 h2
    · exact absurd h (by decide)
  · rcases h with ⟨h, _⟩ | ⟨h, _⟩ | ⟨_, h1, h2, h3⟩
    · exact absurd h (by decide)
    · exact absurd h (by decide)
    · obtain ⟨i, hi, rfl, hn⟩ := h3
      refine cd3_3 h1 h2 (fun z => hn ⟨?_, (RC_off hRC hnr).mpr z.2⟩)
      have z1 := z.1
      rw [nI_clamp (by omega)] at z1
      rw [a28]; exact z1
set_option maxRecDepth 10000 in
set_option maxHeartbeats 1000000 in
theorem S_bid {nr ng np nb : Nat} {σ σ2 : Mm} {ov : Int32} (x y : Int32) (hI : INV nr ng np nb σ) (hp : ∃ j, j < 5 ∧ x = nI j ∧ (1 ≤ y ∧ y ≤ 999999) ∧ ¬ σ 9 0 = 0 ∧ ov = σ 10 j ∧ σ2 = (up σ 10 j y)) : (ML nr ng np nb (up σ2 99 0 ov)) ∧ cd3 (0 ≤ x ∧ x < 5) (1 ≤ y ∧ y ≤ 999999) (¬ (up σ2 99 0 ov) 60 23 = -1) = 0 ∧ ov = (up (up σ2 99 0 ov) 60 0 0) 85 x.toNatClampNeg ∧ (up (up (up σ2 99 0 ov) 60 0 0) 85 x.toNatClampNeg y) 60 0 = 0 ∧ (up (up (up σ2 99 0 ov) 60 0 0) 85 x.toNatClampNeg y) 99 0 = ov ∧ INV nr ng np nb (up (up (up σ2 99 0 ov) 60 0 0) 85 x.toNatClampNeg y) := by
  have hI0 := hI
  obtain ⟨hIC, hHZ, hML, hRA, hRB, hRC, hRD1, hRD2, hRE1, hRE2, hRF, hRG, hRH⟩ := hI
  have hRA2 := hRA
  obtain ⟨a1, a21, a23, a24, a25, a26, a28, a29, a30, a31, a32, a33, a3, a5, a8, a7, a6, a10, a40, a47, a44, a45, a43, a48, a50, a51, a12, a14⟩ := hRA2
  have hML2 := hML
  obtain ⟨hm1, hm3, hm26, hm18, hnp, hnr, hng, hnb5, hb, hsc, hlc, hpa, hro, hof, hte⟩ := hML2
  have hIC2 := hIC
  obtain ⟨i1, i2, ⟨i3, i4⟩, i5, i6, ⟨i7, i8⟩, i9, i10, i11⟩ := hIC2
  obtain ⟨j, hj, rfl, hy, hon, rfl, rfl⟩ := hp
  refine ⟨hML, cd3_t ⟨nI_rg (N := 5) hj (by decide), hy, fun z => hon ((RC_off hRC hnr).mpr z)⟩, ?_, rfl, rfl, ?_⟩
  · rw [nI_clamp (by omega)]
    show σ 10 j = σ 85 j
    rw [a10]
  · rw [nI_clamp (by omega)]
    exact I_bid hI0
theorem E_bid {nr ng np nb : Nat} {σ : Mm} (x y : Int32) (hI : INV nr ng np nb σ) : ((fun E : String => (E = sIOB ∧ ¬ (0 ≤ x ∧ x < 5)) ∨ (E = sIAE ∧ (0 ≤ x ∧ x < 5) ∧ ¬ (1 ≤ y ∧ y ≤ 999999)) ∨ (E = sISE ∧ (0 ≤ x ∧ x < 5) ∧ (1 ≤ y ∧ y ≤ 999999) ∧ σ 9 0 = 0)) sIOB → cd3 (0 ≤ x ∧ x < 5) (1 ≤ y ∧ y ≤ 999999) (¬ σ 60 23 = -1) = 1) ∧ ((fun E : String => (E = sIOB ∧ ¬ (0 ≤ x ∧ x < 5)) ∨ (E = sIAE ∧ (0 ≤ x ∧ x < 5) ∧ ¬ (1 ≤ y ∧ y ≤ 999999)) ∨ (E = sISE ∧ (0 ≤ x ∧ x < 5) ∧ (1 ≤ y ∧ y ≤ 999999) ∧ σ 9 0 = 0)) sIAE → cd3 (0 ≤ x ∧ x < 5) (1 ≤ y ∧ y ≤ 999999) (¬ σ 60 23 = -1) = 2) ∧ ((fun E : String => (E = sIOB ∧ ¬ (0 ≤ x ∧ x < 5)) ∨ (E = sIAE ∧ (0 ≤ x ∧ x < 5) ∧ ¬ (1 ≤ y ∧ y ≤ 999999)) ∨ (E = sISE ∧ (0 ≤ x ∧ x < 5) ∧ (1 ≤ y ∧ y ≤ 999999) ∧ σ 9 0 = 0)) sISE → cd3 (0 ≤ x ∧ x < 5) (1 ≤ y ∧ y ≤ 999999) (¬ σ 60 23 = -1) = 3) := by
  have hI0 := hI
  obtain ⟨hIC, hHZ, hML, hRA, hRB, hRC, hRD1, hRD2, hRE1, hRE2, hRF, hRG, hRH⟩ := hI
  have hRA2 := hRA
  obtain ⟨a1, a21, a23, a24, a25, a26, a28, a29, a30, a31, a32, a33, a3, a5, a8, a7, a6, a10, a40, a47, a44, a45, a43, a48, a50, a51, a12, a14⟩ := hRA2
  have hML2 := hML
  obtain ⟨hm1, hm3, hm26, hm18, hnp, hnr, hng, hnb5, hb, hsc, hlc, hpa, hro, hof, hte⟩ := hML2
  have hIC2 := hIC
  obtain ⟨i1, i2, ⟨i3, i4⟩, i5, i6, ⟨i7, i8⟩, i9, i10, i11⟩ := hIC2
  refine ⟨fun h => ?_, fun h => ?_, fun h => ?_⟩
  · rcases h with ⟨_, h1⟩ | ⟨h, _⟩ | ⟨h, _⟩
    · exact cd3_1 h1
    · exact absurd h (by decide)
    · exact absurd h (by decide)
  · rcases h with ⟨h, _⟩ | ⟨_, h1, h2⟩ | ⟨h, _⟩
    · exact absurd h (by decide)
    · exact cd3_2 h1 h2
    · exact absurd h (by decide)
  · rcases h with ⟨h, _⟩ | ⟨h, _⟩ | ⟨_, h1, h2, h3⟩
    · exact absurd h (by decide)
    · exact absurd h (by decide)
    · exact cd3_3 h1 h2 (fun z => z ((RC_off hRC hnr).mp h3))
set_option maxRecDepth 10000 in
set_option maxHeartbeats 1000000 in
theorem S_close {nr ng np nb : Nat} {σ σ2 : Mm} {ov : Int32} (hI : INV nr ng np nb σ) (hp : ∃ i, i < nr ∧ σ 9 0 = nI (i + 1) ∧ ov = twC σ 5 ∧ σ2 = (clsC σ i)) : (ML nr ng np nb (up σ2 99 0 ov)) ∧ cd1 (¬ (up σ2 99 0 ov) 60 23 = -1) = 0 ∧ ov = twM (up (up σ2 99 0 ov) 60 0 0) 5 ∧ (clM (up (up σ2 99 0 ov) 60 0 0) ((up (up σ2 99 0 ov) 60 0 0) 60 23).toNatClampNeg) 60 0 = 0 ∧ (clM (up (up σ2 99 0 ov) 60 0 0) ((up (up σ2 99 0 ov) 60 0 0) 60 23).toNatClampNeg) 99 0 = ov ∧ INV nr ng np nb (clM (up (up σ2 99 0 ov) 60 0 0) ((up (up σ2 99 0 ov) 60 0 0) 60 23).toNatClampNeg) := by
  have hI0 := hI
  obtain ⟨hIC, hHZ, hML, hRA, hRB, hRC, hRD1, hRD2, hRE1, hRE2, hRF, hRG, hRH⟩ := hI
  have hRA2 := hRA
  obtain ⟨a1, a21, a23, a24, a25, a26, a28, a29, a30, a31, a32, a33, a3, a5, a8, a7, a6, a10, a40, a47, a44, a45, a43, a48, a50, a51, a12, a14⟩ := hRA2
  have hML2 := hML
  obtain ⟨hm1, hm3, hm26, hm18, hnp, hnr, hng, hnb5, hb, hsc, hlc, hpa, hro, hof, hte⟩ := hML2
  have hIC2 := hIC
  obtain ⟨i1, i2, ⟨i3, i4⟩, i5, i6, ⟨i7, i8⟩, i9, i10, i11⟩ := hIC2
  obtain ⟨i, hi, h9, rfl, rfl⟩ := hp
  have htw := tw_eq a10 a6 hRC.1 hRC.2.1 5
  have h23 : σ 60 23 = nI i ∧ σ 28 i = 0 := by
    rcases hRC.2.2.1 with ⟨g1, -⟩ | ⟨q, hq, g1, g2, g3⟩
    · rw [h9] at g1; exact absurd g1 (nI_ne0 (by omega) (by omega))
    · have e : q = i := by
        have h1 := congrArg Int32.toInt (g1.symm.trans h9)
        rw [nI_toInt (by omega), nI_toInt (by omega)] at h1
        omega
      rw [e] at g2 g3; exact ⟨g2, g3⟩
  have hbox : σ 30 i = -1 := by
    rcases hRF i hi with g | g | g
    · rw [h23.2] at g; exact absurd g.1 (by decide)
    · exact g.2.1
    · exact g.2
  have hc60 : ∀ r, 60 ≤ r → clsC σ i r = σ r := fun r hr => by
    unfold clsC
    exact iF_row (up_ne (by omega)) (by rw [up_ne (by omega), up_ne (by omega), up_ne (by omega), up_ne (by omega)])
  have e85 := hc60 85 (by decide)
  have e82 := hc60 82 (by decide)
  have e60 := hc60 60 (by decide)
  have hcl : (up (up (clsC σ i) 99 0 (twC σ 5)) 60 0 0 60 23).toNatClampNeg = i := by
    show (clsC σ i 60 23).toNatClampNeg = i
    rw [e60, h23.1, nI_clamp (by omega)]
  rw [hcl, twM_cg (σ := σ) (τ := up (up (clsC σ i) 99 0 (twC σ 5)) 60 0 0) e85 (by show clsC σ i 60 24 = _; rw [e60]) e82 5, clM_cg (σ := σ) (τ := up (up (clsC σ i) 99 0 (twC σ 5)) 60 0 0) e85 (by show clsC σ i 60 24 = _; rw [e60]) e82 i]
  have hcd : cd1 (¬ up (clsC σ i) 99 0 (twC σ 5) 60 23 = -1) = 0 := cd1_t (by
    show ¬ clsC σ i 60 23 = -1
    rw [e60, h23.1]; exact nI_nem1 (by omega))
  by_cases q : twM σ 5 = -1
  · have ec : clsC σ i = up σ 9 0 0 := by unfold clsC; rw [iF_t (htw.trans q)]
    rw [ec] at hcd ⊢
    rw [iF_t q]
    refine ⟨hML, hcd, htw, rfl, rfl, ?_⟩
    exact ⟨⟨i1, i2, ⟨i3, i4⟩, i5, i6, ⟨i7, i8⟩, Or.inl rfl, i10, i11⟩, hHZ, ⟨hm1, hm3, hm26, hm18, hnp, hnr, hng, hnb5, hb, hsc, hlc, hpa, hro, hof, Or.inl rfl⟩, hRA, hRB, ⟨hRC.1, hRC.2.1, Or.inl ⟨rfl, rfl⟩, hRC.2.2.2⟩, hRD1, hRD2, hRE1, hRE2, hRF, hRG, RH_cg (σ := σ) rfl rfl rfl rfl rfl hRH⟩
  · have ec : clsC σ i = up (up (up (up σ 31 i (payC σ (twC σ 5) 5)) 28 i 2) 29 i (twC σ 5)) 9 0 0 := by unfold clsC; rw [iF_f (fun z => q (htw.symm.trans z))]
    rw [ec] at hcd ⊢
    rw [iF_f q]
    refine ⟨hML, hcd, htw, rfl, rfl, ?_⟩
    exact ⟨⟨i1, i2, ⟨i3, i4⟩, i5, i6, ⟨i7, i8⟩, Or.inl rfl, i10, i11⟩, hHZ, ⟨hm1, hm3, hm26, hm18, hnp, hnr, hng, hnb5, hb, hsc, hlc, hpa, hro, hof, Or.inl rfl⟩, ⟨a1, a21, a23, a24, a25, a26, (congrArg (fun g => upd g i 2) a28), (by
        show upd (σ 29) i (twC σ 5) = upd (σ 70) i (twM σ 5)
        rw [a29, htw]), a30, (by
        show upd (σ 31) i (payC σ (twC σ 5) 5) = upd (σ 72) i (pyM σ (twM σ 5) 5)
        rw [a31, htw, py_eq a10 hRC.1]), a32, a33, a3, a5, a8, a7, a6, a10, a40, a47, a44, a45, a43, a48, a50, a51, a12, a14⟩, hRB, ⟨hRC.1, hRC.2.1, Or.inl ⟨rfl, rfl⟩, hRC.2.2.2⟩, hRD1, hRD2, fun p hp => by
        obtain ⟨q1, q2, q3⟩ := hRE1 p hp
        exact ⟨(pk_un (by omega)).trans q1, (pk_un (by omega)).trans q2, q3⟩, hRE2, fun p hp => by
        by_cases e : p = i
        · subst e; exact Or.inr (Or.inr ⟨Or.inl pk_us, hbox⟩)
        · have hq := hRF p hp
          rw [← pk_un (f := σ 28) (x := 2) e, ← pk_un (f := σ 29) (x := twC σ 5) e] at hq
          exact hq, hRG, RH_cg (σ := σ) rfl rfl rfl rfl rfl hRH⟩
theorem E_close {nr ng np nb : Nat} {σ : Mm} (hI : INV nr ng np nb σ) : ((fun E : String => E = sISE ∧ σ 9 0 = 0) sISE → cd1 (¬ σ 60 23 = -1) = 1) := by
  have hI0 := hI
  obtain ⟨hIC, hHZ, hML, hRA, hRB, hRC, hRD1, hRD2, hRE1, hRE2, hRF, hRG, hRH⟩ := hI
  have hRA2 := hRA
  obtain ⟨a1, a21, a23, a24, a25, a26, a28, a29, a30, a31, a32, a33, a3, a5, a8, a7, a6, a10, a40, a47, a44, a45, a43, a48, a50, a51, a12, a14⟩ := hRA2
  have hML2 := hML
  obtain ⟨hm1, hm3, hm26, hm18, hnp, hnr, hng, hnb5, hb, hsc, hlc, hpa, hro, hof, hte⟩ := hML2
  have hIC2 := hIC
  obtain ⟨i1, i2, ⟨i3, i4⟩, i5, i6, ⟨i7, i8⟩, i9, i10, i11⟩ := hIC2
  intro h
  obtain ⟨_, h1⟩ := h
  exact cd1_1 (fun z => z ((RC_off hRC hnr).mp h1))
set_option maxRecDepth 10000 in
set_option maxHeartbeats 1000000 in
theorem S_plan {nr ng np nb : Nat} {σ σ2 : Mm} {ov : Int32} (x : Int32) (hI : INV nr ng np nb σ) (hp : ∃ i, i < nr ∧ x = nI i ∧ ov = nI (plS (σ 26 i) 12) ∧ σ2 = σ) : (ML nr ng np nb (up σ2 99 0 ov)) ∧ cd1 (0 ≤ x ∧ x < nI nr) = 0 ∧ ov = nI (plS ((up (up σ2 99 0 ov) 60 0 0) 68 x.toNatClampNeg) 12) ∧ ((up (up σ2 99 0 ov) 60 0 0)) 60 0 = 0 ∧ ((up (up σ2 99 0 ov) 60 0 0)) 99 0 = ov ∧ INV nr ng np nb ((up (up σ2 99 0 ov) 60 0 0)) := by
  have hI0 := hI
  obtain ⟨hIC, hHZ, hML, hRA, hRB, hRC, hRD1, hRD2, hRE1, hRE2, hRF, hRG, hRH⟩ := hI
  have hRA2 := hRA
  obtain ⟨a1, a21, a23, a24, a25, a26, a28, a29, a30, a31, a32, a33, a3, a5, a8, a7, a6, a10, a40, a47, a44, a45, a43, a48, a50, a51, a12, a14⟩ := hRA2
  have hML2 := hML
  obtain ⟨hm1, hm3, hm26, hm18, hnp, hnr, hng, hnb5, hb, hsc, hlc, hpa, hro, hof, hte⟩ := hML2
  have hIC2 := hIC
  obtain ⟨i1, i2, ⟨i3, i4⟩, i5, i6, ⟨i7, i8⟩, i9, i10, i11⟩ := hIC2
  obtain ⟨i, hi, rfl, rfl, rfl⟩ := hp
  refine ⟨hML, cd1_t (nI_rg hi (by omega)), ?_, rfl, rfl, INV_60 0 (INV_99 _ hI0)⟩
  rw [nI_clamp (by omega)]
  show nI (plS (σ2 26 i) 12) = nI (plS (σ2 68 i) 12)
  rw [a26]
theorem E_plan {nr ng np nb : Nat} {σ : Mm} (x : Int32) (hI : INV nr ng np nb σ) : ((fun E : String => E = sIOB ∧ ¬ (0 ≤ x ∧ x < nI nr)) sIOB → cd1 (0 ≤ x ∧ x < nI nr) = 1) := by
  have hI0 := hI
  obtain ⟨hIC, hHZ, hML, hRA, hRB, hRC, hRD1, hRD2, hRE1, hRE2, hRF, hRG, hRH⟩ := hI
  have hRA2 := hRA
  obtain ⟨a1, a21, a23, a24, a25, a26, a28, a29, a30, a31, a32, a33, a3, a5, a8, a7, a6, a10, a40, a47, a44, a45, a43, a48, a50, a51, a12, a14⟩ := hRA2
  have hML2 := hML
  obtain ⟨hm1, hm3, hm26, hm18, hnp, hnr, hng, hnb5, hb, hsc, hlc, hpa, hro, hof, hte⟩ := hML2
  have hIC2 := hIC
  obtain ⟨i1, i2, ⟨i3, i4⟩, i5, i6, ⟨i7, i8⟩, i9, i10, i11⟩ := hIC2
  intro h
  obtain ⟨_, h1⟩ := h
  exact cd1_1 h1
set_option maxRecDepth 10000 in
set_option maxHeartbeats 1000000 in
theorem S_planAnew {nr ng np nb : Nat} {σ σ2 : Mm} {ov : Int32} (x : Int32) (hI : INV nr ng np nb σ) (hp : ∃ i, i < nr ∧ x = nI i ∧ ov = paS (σ 26 i) 4096 ∧ σ2 = σ) : (ML nr ng np nb (up σ2 99 0 ov)) ∧ cd1 (0 ≤ x ∧ x < nI nr) = 0 ∧ ov = nI (plS ((up (up σ2 99 0 ov) 60 0 0) 68 x.toNatClampNeg) 12) ∧ ((up (up σ2 99 0 ov) 60 0 0)) 60 0 = 0 ∧ ((up (up σ2 99 0 ov) 60 0 0)) 99 0 = ov ∧ INV nr ng np nb ((up (up σ2 99 0 ov) 60 0 0)) := by
  have hI0 := hI
  obtain ⟨hIC, hHZ, hML, hRA, hRB, hRC, hRD1, hRD2, hRE1, hRE2, hRF, hRG, hRH⟩ := hI
  have hRA2 := hRA
  obtain ⟨a1, a21, a23, a24, a25, a26, a28, a29, a30, a31, a32, a33, a3, a5, a8, a7, a6, a10, a40, a47, a44, a45, a43, a48, a50, a51, a12, a14⟩ := hRA2
  have hML2 := hML
  obtain ⟨hm1, hm3, hm26, hm18, hnp, hnr, hng, hnb5, hb, hsc, hlc, hpa, hro, hof, hte⟩ := hML2
  have hIC2 := hIC
  obtain ⟨i1, i2, ⟨i3, i4⟩, i5, i6, ⟨i7, i8⟩, i9, i10, i11⟩ := hIC2
  obtain ⟨i, hi, rfl, rfl, rfl⟩ := hp
  refine ⟨hML, cd1_t (nI_rg hi (by omega)), ?_, rfl, rfl, INV_60 0 (INV_99 _ hI0)⟩
  rw [nI_clamp (by omega)]
  show paS (σ2 26 i) 4096 = nI (plS (σ2 68 i) 12)
  obtain ⟨F, hF, hF2⟩ := (hRD1 i hi).2.2.2
  rw [← a26, hF2, pa_pl hF]
theorem E_planAnew {nr ng np nb : Nat} {σ : Mm} (x : Int32) (hI : INV nr ng np nb σ) : ((fun E : String => E = sIOB ∧ ¬ (0 ≤ x ∧ x < nI nr)) sIOB → cd1 (0 ≤ x ∧ x < nI nr) = 1) := by
  have hI0 := hI
  obtain ⟨hIC, hHZ, hML, hRA, hRB, hRC, hRD1, hRD2, hRE1, hRE2, hRF, hRG, hRH⟩ := hI
  have hRA2 := hRA
  obtain ⟨a1, a21, a23, a24, a25, a26, a28, a29, a30, a31, a32, a33, a3, a5, a8, a7, a6, a10, a40, a47, a44, a45, a43, a48, a50, a51, a12, a14⟩ := hRA2
  have hML2 := hML
  obtain ⟨hm1, hm3, hm26, hm18, hnp, hnr, hng, hnb5, hb, hsc, hlc, hpa, hro, hof, hte⟩ := hML2
  have hIC2 := hIC
  obtain ⟨i1, i2, ⟨i3, i4⟩, i5, i6, ⟨i7, i8⟩, i9, i10, i11⟩ := hIC2
  intro h
  obtain ⟨_, h1⟩ := h
  exact cd1_1 h1
set_option maxRecDepth 10000 in
set_option maxHeartbeats 1000000 in
theorem S_cut {nr ng np nb : Nat} {σ σ2 : Mm} {ov : Int32} (x : Int32) (hI : INV nr ng np nb σ) (hp : ∃ (i0 : Nat), (i0 < nr ∧ x = nI i0 ∧ (¬ σ 28 i0 = 1 ∧ ¬ σ 28 i0 = 3) ∧ ng + pcN (σ 26 i0) 12 ≤ 80) ∧ ov = nI (pcN (σ 26 i0) 12) ∧ σ2 = (cutC σ ng i0)) : (ML nr ng np nb (up σ2 99 0 ov)) ∧ cd2 (0 ≤ x ∧ x < nI nr) (((up σ2 99 0 ov) 69 x.toNatClampNeg = 0 ∨ (up σ2 99 0 ov) 69 x.toNatClampNeg = 2) ∧ ng + pcN ((up σ2 99 0 ov) 68 x.toNatClampNeg) 12 ≤ 80) = 0 ∧ ov = nI (pcN ((up σ2 99 0 ov) 68 x.toNatClampNeg) 12) ∧ (cutM (up (up σ2 99 0 ov) 60 0 0) ng x.toNatClampNeg) 60 0 = 0 ∧ (cutM (up (up σ2 99 0 ov) 60 0 0) ng x.toNatClampNeg) 99 0 = ov ∧ INV nr (ng + pcN (σ 26 x.toNatClampNeg) 12) np nb (cutM (up (up σ2 99 0 ov) 60 0 0) ng x.toNatClampNeg) := by
  have hI0 := hI
  obtain ⟨hIC, hHZ, hML, hRA, hRB, hRC, hRD1, hRD2, hRE1, hRE2, hRF, hRG, hRH⟩ := hI
  have hRA2 := hRA
  obtain ⟨a1, a21, a23, a24, a25, a26, a28, a29, a30, a31, a32, a33, a3, a5, a8, a7, a6, a10, a40, a47, a44, a45, a43, a48, a50, a51, a12, a14⟩ := hRA2
  have hML2 := hML
  obtain ⟨hm1, hm3, hm26, hm18, hnp, hnr, hng, hnb5, hb, hsc, hlc, hpa, hro, hof, hte⟩ := hML2
  have hIC2 := hIC
  obtain ⟨i1, i2, ⟨i3, i4⟩, i5, i6, ⟨i7, i8⟩, i9, i10, i11⟩ := hIC2
  obtain ⟨i, ⟨hi, rfl, hn, h80⟩, rfl, rfl⟩ := hp
  rw [nI_clamp (by omega)]
  obtain ⟨A, hA⟩ : ∃ A, A = cgC σ ng i 12 := ⟨_, rfl⟩
  have hcut : cutC σ ng i = endT (up A 28 i 3) i := by unfold cutC; rw [hA]
  have rA : ∀ r, r ≠ 0 → r ≠ 11 → (r < 40 ∨ 60 ≤ r) → A r = σ r := fun r h0 h1 h2 => by rw [hA]; exact cgC_r σ ng i h0 h1 h2 12
  obtain ⟨τ, hτ⟩ : ∃ τ, τ = cutC σ ng i := ⟨_, rfl⟩
  rw [← hτ]
  have rτ : ∀ r, r ≠ 9 → r ≠ 28 → τ r = A r := fun r h1 h2 => by rw [hτ, hcut, endT_r _ _ h1, up_ne h2]
  have rτ2 : ∀ r, r ≠ 9 → r ≠ 28 → r ≠ 0 → r ≠ 11 → (r < 40 ∨ 60 ≤ r) → τ r = σ r := fun r h1 h2 h3 h4 h5 => by rw [rτ r h1 h2, rA r h3 h4 h5]
  have e68 : ∀ v, (up τ 99 0 v) 68 i = σ 26 i := fun v => by rw [up_ne (by decide), rτ2 68 (by decide) (by decide) (by decide) (by decide) (by decide), a26]
  rw [e68]
  obtain ⟨N, hN⟩ : ∃ N, N = pcN (σ 26 i) 12 := ⟨_, rfl⟩
  rw [← hN] at h80 ⊢
  have hz := cgC_z (i := i) hHZ i6 12
  rw [← hN, ← hA] at hz
  have hMτ : ML nr ng np nb τ := by
    unfold ML
    rw [rτ2 60 (by decide) (by decide) (by decide) (by decide) (by decide), rτ2 74 (by decide) (by decide) (by decide) (by decide) (by decide), rτ2 73 (by decide) (by decide) (by decide) (by decide) (by decide), rτ2 93 (by decide) (by decide) (by decide) (by decide) (by decide), rτ2 64 (by decide) (by decide) (by decide) (by decide) (by decide), rτ2 87 (by decide) (by decide) (by decide) (by decide) (by decide), rτ2 81 (by decide) (by decide) (by decide) (by decide) (by decide)]
    exact hML
  obtain ⟨μ, hμ⟩ : ∃ μ, μ = up (up τ 99 0 (nI N)) 60 0 0 := ⟨_, rfl⟩
  rw [← hμ]
  obtain ⟨B, hB⟩ : ∃ B, B = cgM μ ng i 12 := ⟨_, rfl⟩
  have hcm : cutM μ ng i = endM (up B 69 i 3) i := by unfold cutM; rw [hB]
  rw [hcm]
  have rU : ∀ r, r ≠ 9 → r ≠ 28 → r ≠ 99 → r ≠ 60 → μ r = A r := fun r h1 h2 h3 h4 => by rw [hμ, up_ne h4, up_ne h3, rτ r h1 h2]
  have mU : ∀ r, 60 < r → r < 99 → μ r = σ r := fun r h1 h2 => by rw [rU r (by omega) (by omega) (by omega) (by omega), rA r (by omega) (by omega) (by omega)]
  have m60 : μ 60 = upd (σ 60) 0 0 := by rw [hμ, ← rτ2 60 (by decide) (by decide) (by decide) (by decide) (by decide)]; rfl
  have rB : ∀ r, r ≠ 60 → (r < 87 ∨ 92 < r) → B r = μ r := fun r h1 h2 => by rw [hB]; exact cgM_r μ ng i h1 h2 12
  have J0 : CJ nr ng σ μ σ μ := by
    refine ⟨i2, ⟨?_, ?_, ?_, ?_, ?_, ?_⟩, ?_, fun p hp => ?_, fun p hp => ?_, ⟨rfl, rfl, rfl, rfl, rfl⟩, fun _ _ _ => rfl, fun _ _ _ => rfl⟩
    · rw [mU 87 (by decide) (by decide)]; exact a40
    · rw [mU 88 (by decide) (by decide)]; exact a47
    · rw [mU 89 (by decide) (by decide)]; exact a44
    · rw [mU 90 (by decide) (by decide)]; exact a45
    · rw [mU 91 (by decide) (by decide)]; exact a43
    · rw [mU 92 (by decide) (by decide)]; exact a48
    · rw [m60]; exact hRC.2.2.2
    · rw [mU 87 (by decide) (by decide)]; exact hRD2 p hp
    · rw [mU 87 (by decide) (by decide)]; exact hro p hp
  have J : CJ nr (ng + N) σ μ A B := by
    have h := CJ_all hi hnr hRE2 hRD1 a26 a25 a29 a23 (mU 68 (by decide) (by decide)) (fun r hr => mU r (by omega) (by omega)) (by rw [m60]; exact hRC.2.2.2) J0 12 (Nat.le_refl _)
    rw [← hN, ← hA, ← hB] at h
    exact h
  have hB26 : B 60 26 = nI (ng + N) := by
    have h := cgM_26 (g := ng) (σ := μ) (i := i) (by rw [m60]; exact hm26) 12
    rw [mU 68 (by decide) (by decide), ← a26, ← hN, ← hB] at h
    exact h
  obtain ⟨j1, ⟨j2, j3, j4, j5, j6, j7⟩, j8, j9, j10, ⟨j11, j12, j13, j14, j15⟩, j16, j17⟩ := J
  obtain ⟨T, hT⟩ : ∃ T, T = endM (up B 69 i 3) i := ⟨_, rfl⟩
  rw [← hT]
  have rT : ∀ r, r ≠ 60 → r ≠ 69 → T r = B r := fun r h1 h2 => by rw [hT]; unfold endM; rw [up_ne h1, up_ne h2]
  have tA : ∀ r, r < 60 → r ≠ 9 → r ≠ 28 → T r = A r := fun r h1 h2 h3 => by rw [rT r (by omega) (by omega), rB r (by omega) (by omega), rU r h2 h3 (by omega) (by omega)]
  have tS : ∀ r, r < 40 → r ≠ 9 → r ≠ 28 → r ≠ 0 → r ≠ 11 → T r = σ r := fun r h1 h2 h3 h4 h5 => by rw [tA r (by omega) h2 h3, rA r h4 h5 (by omega)]
  have tM : ∀ r, (60 < r ∧ r < 69 ∨ 69 < r ∧ r < 87 ∨ 92 < r ∧ r < 99) → T r = σ r := fun r h => by rw [rT r (by omega) (by omega), rB r (by omega) (by omega), mU r (by omega) (by omega)]
  have t28 : T 28 = upd (σ 28) i 3 := by
    rw [rT 28 (by decide) (by decide), rB 28 (by decide) (by decide), hμ, ← rA 28 (by decide) (by decide) (by decide)]
    show τ 28 = _
    rw [hτ, hcut, endT_r _ _ (by decide)]; rfl
  have t69 : T 69 = upd (σ 69) i 3 := by
    rw [hT, ← mU 69 (by decide) (by decide), ← rB 69 (by decide) (by decide)]; rfl
  have t60 : ∀ k, k ≠ 23 → k ≠ 26 → k ≠ 38 → k ≠ 0 → T 60 k = σ 60 k := fun k h1 h2 h3 h4 => by
    rw [hT]
    show upd (B 60) 23 (iF (B 60 23 = nI i) (-1) (B 60 23)) k = _
    rw [pk_un h1, j17 k h2 h3, m60, pk_un h4]
  have t600 : T 60 0 = 0 := by
    rw [hT]
    show upd (B 60) 23 (iF (B 60 23 = nI i) (-1) (B 60 23)) 0 = _
    rw [pk_un (by decide), j17 0 (by decide) (by decide), m60]; rfl
  have t26 : T 60 26 = nI (ng + N) := by
    rw [hT]
    show upd (B 60) 23 (iF (B 60 23 = nI i) (-1) (B 60 23)) 26 = _
    rw [pk_un (by decide)]; exact hB26
  have t38 : T 60 38 = B 60 38 := by rw [hT]; rfl
  have t23 : T 60 23 = iF (σ 60 23 = nI i) (-1) (σ 60 23) := by
    have e : B 60 23 = σ 60 23 := by rw [j17 23 (by decide) (by decide), m60]; rfl
    rw [hT, ← e]; rfl
  have t9 : T 9 = iF (σ 9 0 = nI (i + 1)) (upd (σ 9) 0 0) (σ 9) := by
    rw [rT 9 (by decide) (by decide), rB 9 (by decide) (by decide), hμ, ← rA 9 (by decide) (by decide) (by decide)]
    show τ 9 = _
    rw [hτ, hcut]
    by_cases q : A 9 0 = nI (i + 1)
    · rw [iF_t q]
      unfold endT
      rw [iF_t (show (up A 28 i 3) 9 0 = nI (i + 1) from q)]; rfl
    · rw [iF_f q]
      unfold endT
      rw [iF_f (show ¬ (up A 28 i 3) 9 0 = nI (i + 1) from q)]; rfl
  have t90 : T 9 0 = iF (σ 9 0 = nI (i + 1)) 0 (σ 9 0) := by
    rw [t9]
    by_cases q : σ 9 0 = nI (i + 1)
    · rw [iF_t q, iF_t q]; rfl
    · rw [iF_f q, iF_f q]
  have t91 : T 9 1 = σ 9 1 := by
    rw [t9]
    by_cases q : σ 9 0 = nI (i + 1)
    · rw [iF_t q]; rfl
    · rw [iF_f q]
  have t99 : T 99 0 = nI N := by
    rw [rT 99 (by decide) (by decide), rB 99 (by decide) (by decide), hμ]; rfl
  have t0 : ∀ k, k ≠ 12 → k ≠ 13 → T 0 k = σ 0 k := fun k h1 h2 => by rw [tA 0 (by decide) (by decide) (by decide)]; exact j16 k h1 h2
  have h30 : σ 30 i = -1 ∧ (σ 28 i = 0 ∨ σ 28 i = 2) := by
    rcases hRF i hi with g | g | g
    · exact absurd g.1 hn.1
    · exact ⟨g.2.1, Or.inl g.1⟩
    · exact ⟨g.2, Or.inr (g.1.resolve_right hn.2)⟩
  have hRBT : RB T := by
    unfold RB
    rw [tS 34 (by decide) (by decide) (by decide) (by decide) (by decide), tS 35 (by decide) (by decide) (by decide) (by decide) (by decide), tS 36 (by decide) (by decide) (by decide) (by decide) (by decide), tM 74 (by omega), tA 52 (by decide) (by decide) (by decide), tA 53 (by decide) (by decide) (by decide), tA 54 (by decide) (by decide) (by decide), j13, j14, j15, tM 94 (by omega)]
    exact hRB
  refine ⟨hMτ, cd2_t ⟨nI_rg hi (by omega), ?_, h80⟩, rfl, t600, t99, ⟨⟨?_, ?_, ⟨?_, i4⟩, ?_, ?_, ⟨?_, i8⟩, ?_, fun p hp => ?_, ?_⟩, ⟨?_, ?_⟩, ?_, ?_, hRBT, ⟨?_, ?_, ?_, ?_⟩, ?_, fun p hp => ?_, fun p hp => ?_, fun p hp => ?_, fun p hp => ?_, ?_, ?_⟩⟩
  · show τ 69 i = 0 ∨ τ 69 i = 2
    rw [rτ2 69 (by decide) (by decide) (by decide) (by decide) (by decide), ← a28]; exact h30.2
  · unfold PRs; rw [tS 2 (by decide) (by decide) (by decide) (by decide) (by decide)]; exact i1
  · unfold PGs; rw [tA 11 (by decide) (by decide) (by decide)]; exact j1
  · rw [t0 1 (by decide) (by decide)]; exact i3
  · rw [t0 3 (by decide) (by decide)]; exact i5
  · rw [tA 0 (by decide) (by decide) (by decide)]; exact hz.2
  · rw [t0 9 (by decide) (by decide)]; exact i7
  · unfold tOK
    rw [t90]
    by_cases q : σ 9 0 = nI (i + 1)
    · rw [iF_t q]; exact Or.inl rfl
    · rw [iF_f q]; exact i9
  · have h := i10 p hp
    unfold qualC at h ⊢
    rw [tS 33 (by decide) (by decide) (by decide) (by decide) (by decide), tS 34 (by decide) (by decide) (by decide) (by decide) (by decide), tS 35 (by decide) (by decide) (by decide) (by decide) (by decide), tS 36 (by decide) (by decide) (by decide) (by decide) (by decide)]; exact h
  · rw [tS 1 (by decide) (by decide) (by decide) (by decide) (by decide)]; exact i11
  · rw [tA 2 (by decide) (by decide) (by decide)]; exact hz.1.1
  · rw [tA 11 (by decide) (by decide) (by decide)]; exact hz.1.2
  · unfold ML
    rw [t60 1 (by decide) (by decide) (by decide) (by decide), t60 3 (by decide) (by decide) (by decide) (by decide), t26, t60 18 (by decide) (by decide) (by decide) (by decide), t23, tM 74 (by omega), tM 73 (by omega), tM 93 (by omega), tM 64 (by omega), rT 87 (by decide) (by decide), tM 81 (by omega)]
    refine ⟨hm1, hm3, rfl, hm18, hnp, hnr, h80, hnb5, hb, hsc, fun p hp => ?_, hpa, j10, hof, ?_⟩
    · rcases (show p < ng ∨ ng ≤ p by omega) with e | e
      · exact hlc p e
      · exact ⟨0, by decide, by rw [← a51]; exact (hRE2 p e).2.1⟩
    · by_cases q : σ 60 23 = nI i
      · rw [iF_t q]; exact Or.inl rfl
      · rw [iF_f q]; exact hte
  · unfold RA
    rw [t28, t69, a28, tS 1 (by decide) (by decide) (by decide) (by decide) (by decide), tM 62 (by omega), tS 21 (by decide) (by decide) (by decide) (by decide) (by decide), tM 64 (by omega), tS 23 (by decide) (by decide) (by decide) (by decide) (by decide), tM 65 (by omega), tS 24 (by decide) (by decide) (by decide) (by decide) (by decide), tM 66 (by omega), tS 25 (by decide) (by decide) (by decide) (by decide) (by decide), tM 67 (by omega), tS 26 (by decide) (by decide) (by decide) (by decide) (by decide), tM 68 (by omega), tS 29 (by decide) (by decide) (by decide) (by decide) (by decide), tM 70 (by omega), tS 30 (by decide) (by decide) (by decide) (by decide) (by decide), tM 71 (by omega), tS 31 (by decide) (by decide) (by decide) (by decide) (by decide), tM 72 (by omega), tS 32 (by decide) (by decide) (by decide) (by decide) (by decide), tM 75 (by omega), tS 33 (by decide) (by decide) (by decide) (by decide) (by decide), tM 73 (by omega), tS 3 (by decide) (by decide) (by decide) (by decide) (by decide), tM 76 (by omega), tS 5 (by decide) (by decide) (by decide) (by decide) (by decide), tM 77 (by omega), tS 8 (by decide) (by decide) (by decide) (by decide) (by decide), tM 79 (by omega), tS 7 (by decide) (by decide) (by decide) (by decide) (by decide), tM 81 (by omega), tS 6 (by decide) (by decide) (by decide) (by decide) (by decide), tM 82 (by omega), tS 10 (by decide) (by decide) (by decide) (by decide) (by decide), tM 85 (by omega), tA 40 (by decide) (by decide) (by decide), rT 87 (by decide) (by decide), tA 47 (by decide) (by decide) (by decide), rT 88 (by decide) (by decide), tA 44 (by decide) (by decide) (by decide), rT 89 (by decide) (by decide), tA 45 (by decide) (by decide) (by decide), rT 90 (by decide) (by decide), tA 43 (by decide) (by decide) (by decide), rT 91 (by decide) (by decide), tA 48 (by decide) (by decide) (by decide), rT 92 (by decide) (by decide), tA 50 (by decide) (by decide) (by decide), tM 95 (by omega), tA 51 (by decide) (by decide) (by decide), tM 93 (by omega), tS 12 (by decide) (by decide) (by decide) (by decide) (by decide), tM 96 (by omega), tS 14 (by decide) (by decide) (by decide) (by decide) (by decide), tM 97 (by omega)]
    exact ⟨a1, a21, a23, a24, a25, a26, rfl, a29, a30, a31, a32, a33, a3, a5, a8, a7, a6, a10, j2, j3, j4, j5, j6, j7, (j11.trans a50), (j12.trans a51), a12, a14⟩
  · rw [t91, t60 24 (by decide) (by decide) (by decide) (by decide)]; exact hRC.1
  · rw [t91]; exact hRC.2.1
  · rw [t90, t23, t28]
    rcases hRC.2.2.1 with ⟨g1, g2⟩ | ⟨q, hq, g1, g2, g3⟩
    · rw [iF_f (by rw [g1]; exact fun z => nI_ne0 (Nat.succ_pos i) (by omega) z.symm), iF_f (by rw [g2]; exact fun z => nI_nem1 (by omega) z.symm)]
      exact Or.inl ⟨g1, g2⟩
    · by_cases e : q = i
      · subst e
        rw [iF_t g1, iF_t g2]; exact Or.inl ⟨rfl, rfl⟩
      · rw [iF_f (by rw [g1]; exact fun z => e (by
          have := (nI_eq (by omega) (by omega)).mp z
          omega)), iF_f (by rw [g2]; exact fun z => e ((nI_eq (by omega) (by omega)).mp z))]
        exact Or.inr ⟨q, hq, g1, g2, by rw [pk_un e]; exact g3⟩
  · rw [tA 0 (by decide) (by decide) (by decide), t38]; exact j8
  · unfold RD1 pitM
    rw [tS 20 (by decide) (by decide) (by decide) (by decide) (by decide), tS 22 (by decide) (by decide) (by decide) (by decide) (by decide), tS 23 (by decide) (by decide) (by decide) (by decide) (by decide), tS 26 (by decide) (by decide) (by decide) (by decide) (by decide), tM 62 (by omega), tM 64 (by omega)]; exact hRD1
  · unfold orgM pitM
    rw [tA 41 (by decide) (by decide) (by decide), tA 42 (by decide) (by decide) (by decide), tA 47 (by decide) (by decide) (by decide), tM 67 (by omega), rT 87 (by decide) (by decide), tM 62 (by omega), tM 64 (by omega)]; exact j9 p hp
  · rw [t28, tS 31 (by decide) (by decide) (by decide) (by decide) (by decide), tS 32 (by decide) (by decide) (by decide) (by decide) (by decide), tS 33 (by decide) (by decide) (by decide) (by decide) (by decide), tS 34 (by decide) (by decide) (by decide) (by decide) (by decide), tS 35 (by decide) (by decide) (by decide) (by decide) (by decide), tS 36 (by decide) (by decide) (by decide) (by decide) (by decide), pk_un (by omega)]
    exact hRE1 p hp
  · rw [tA 50 (by decide) (by decide) (by decide), tA 51 (by decide) (by decide) (by decide), tA 52 (by decide) (by decide) (by decide), tA 53 (by decide) (by decide) (by decide), tA 54 (by decide) (by decide) (by decide), j11, j12, j13, j14, j15]
    exact hRE2 p (by omega)
  · rw [t28, tS 30 (by decide) (by decide) (by decide) (by decide) (by decide), tS 29 (by decide) (by decide) (by decide) (by decide) (by decide)]
    by_cases e : p = i
    · subst e; exact Or.inr (Or.inr ⟨Or.inr pk_us, h30.1⟩)
    · rw [pk_un e]; exact hRF p hp
  · unfold RG offd
    rw [tS 7 (by decide) (by decide) (by decide) (by decide) (by decide), tM 80 (by omega)]; exact hRG
  · exact RH_cg (σ := σ) (tM 62 (by omega)) (tM 64 (by omega)) (tM 65 (by omega)) (tS 13 (by decide) (by decide) (by decide) (by decide) (by decide)) (tS 14 (by decide) (by decide) (by decide) (by decide) (by decide)) hRH
theorem E_cut {nr ng np nb : Nat} {σ : Mm} (x : Int32) (hI : INV nr ng np nb σ) : ((fun E : String => (E = sIOB ∧ ¬ (0 ≤ x ∧ x < nI nr)) ∨ (E = sISE ∧ (0 ≤ x ∧ x < nI nr) ∧ ∃ i0, i0 < nr ∧ x = nI i0 ∧ ¬ ((¬ σ 28 i0 = 1 ∧ ¬ σ 28 i0 = 3) ∧ ng + pcN (σ 26 i0) 12 ≤ 80))) sIOB → cd2 (0 ≤ x ∧ x < nI nr) ((σ 69 x.toNatClampNeg = 0 ∨ σ 69 x.toNatClampNeg = 2) ∧ ng + pcN (σ 68 x.toNatClampNeg) 12 ≤ 80) = 1) ∧ ((fun E : String => (E = sIOB ∧ ¬ (0 ≤ x ∧ x < nI nr)) ∨ (E = sISE ∧ (0 ≤ x ∧ x < nI nr) ∧ ∃ i0, i0 < nr ∧ x = nI i0 ∧ ¬ ((¬ σ 28 i0 = 1 ∧ ¬ σ 28 i0 = 3) ∧ ng + pcN (σ 26 i0) 12 ≤ 80))) sISE → cd2 (0 ≤ x ∧ x < nI nr) ((σ 69 x.toNatClampNeg = 0 ∨ σ 69 x.toNatClampNeg = 2) ∧ ng + pcN (σ 68 x.toNatClampNeg) 12 ≤ 80) = 2) := by
  have hI0 := hI
  obtain ⟨hIC, hHZ, hML, hRA, hRB, hRC, hRD1, hRD2, hRE1, hRE2, hRF, hRG, hRH⟩ := hI
  have hRA2 := hRA
  obtain ⟨a1, a21, a23, a24, a25, a26, a28, a29, a30, a31, a32, a33, a3, a5, a8, a7, a6, a10, a40, a47, a44, a45, a43, a48, a50, a51, a12, a14⟩ := hRA2
  have hML2 := hML
  obtain ⟨hm1, hm3, hm26, hm18, hnp, hnr, hng, hnb5, hb, hsc, hlc, hpa, hro, hof, hte⟩ := hML2
  have hIC2 := hIC
  obtain ⟨i1, i2, ⟨i3, i4⟩, i5, i6, ⟨i7, i8⟩, i9, i10, i11⟩ := hIC2
  refine ⟨fun h => ?_, fun h => ?_⟩
  · rcases h with ⟨_, h1⟩ | ⟨h, _⟩
    · exact cd2_1 h1
    · exact absurd h (by decide)
  · rcases h with ⟨h, _⟩ | ⟨_, h1, h2⟩
    · exact absurd h (by decide)
    · obtain ⟨i, hi, rfl, hn⟩ := h2
      refine cd2_2 h1 (fun z => hn ?_)
      rw [nI_clamp (by omega)] at z
      rw [a26, a28]
      exact ⟨z.1.elim (fun q => by rw [q]; exact ⟨by decide, by decide⟩) (fun q => by rw [q]; exact ⟨by decide, by decide⟩), z.2⟩
set_option maxRecDepth 10000 in
set_option maxHeartbeats 1000000 in
theorem S_recut {nr ng np nb : Nat} {σ σ2 : Mm} {ov : Int32} (x y : Int32) (hI : INV nr ng np nb σ) (hp : ∃ i, i < ng ∧ x = nI i ∧ (1 ≤ y ∧ y ≤ σ 47 i - 1) ∧ ov = σ 47 i - y ∧ σ2 = (up (up σ 47 i y) 0 13 (σ 0 13 + (σ 47 i - y)))) : (ML nr ng np nb (up σ2 99 0 ov)) ∧ cd2 (0 ≤ x ∧ x < nI ng) (1 ≤ y ∧ y ≤ (up σ2 99 0 ov) 88 x.toNatClampNeg - 1) = 0 ∧ ov = (up (up σ2 99 0 ov) 60 0 0) 88 x.toNatClampNeg - y ∧ (up (up (up (up σ2 99 0 ov) 60 0 0) 88 x.toNatClampNeg y) 60 38 ((up (up σ2 99 0 ov) 60 0 0) 60 38 + ((up (up σ2 99 0 ov) 60 0 0) 88 x.toNatClampNeg - y))) 60 0 = 0 ∧ (up (up (up (up σ2 99 0 ov) 60 0 0) 88 x.toNatClampNeg y) 60 38 ((up (up σ2 99 0 ov) 60 0 0) 60 38 + ((up (up σ2 99 0 ov) 60 0 0) 88 x.toNatClampNeg - y))) 99 0 = ov ∧ INV nr ng np nb (up (up (up (up σ2 99 0 ov) 60 0 0) 88 x.toNatClampNeg y) 60 38 ((up (up σ2 99 0 ov) 60 0 0) 60 38 + ((up (up σ2 99 0 ov) 60 0 0) 88 x.toNatClampNeg - y))) := by
  have hI0 := hI
  obtain ⟨hIC, hHZ, hML, hRA, hRB, hRC, hRD1, hRD2, hRE1, hRE2, hRF, hRG, hRH⟩ := hI
  have hRA2 := hRA
  obtain ⟨a1, a21, a23, a24, a25, a26, a28, a29, a30, a31, a32, a33, a3, a5, a8, a7, a6, a10, a40, a47, a44, a45, a43, a48, a50, a51, a12, a14⟩ := hRA2
  have hML2 := hML
  obtain ⟨hm1, hm3, hm26, hm18, hnp, hnr, hng, hnb5, hb, hsc, hlc, hpa, hro, hof, hte⟩ := hML2
  have hIC2 := hIC
  obtain ⟨i1, i2, ⟨i3, i4⟩, i5, i6, ⟨i7, i8⟩, i9, i10, i11⟩ := hIC2
  obtain ⟨i, hi, rfl, hy, rfl, rfl⟩ := hp
  have hbd := less_bd (hRD2 i hi).2.2 hy
  refine ⟨hML, cd2_t ⟨nI_rg hi (by omega), ?_⟩, ?_, rfl, rfl, ?_⟩
  · rw [nI_clamp (by omega)]
    show 1 ≤ y ∧ y ≤ σ 88 i - 1
    rw [← a47]; exact hy
  · rw [nI_clamp (by omega)]
    show σ 47 i - y = σ 88 i - y
    rw [a47]
  · rw [nI_clamp (by omega)]
    exact ⟨hIC, hHZ, hML, ⟨a1, a21, a23, a24, a25, a26, a28, a29, a30, a31, a32, a33, a3, a5, a8, a7, a6, a10, a40, (congrArg (fun g => upd g i y) a47), a44, a45, a43, a48, a50, a51, a12, a14⟩, hRB, ⟨hRC.1, hRC.2.1, hRC.2.2.1, by
      show σ 0 13 + (σ 47 i - y) = σ 60 38 + (σ 88 i - y)
      rw [hRC.2.2.2, a47]⟩, hRD1, fun p hp => ⟨(hRD2 p hp).1, (hRD2 p hp).2.1, upd_p (fun v => 0 ≤ v ∧ v ≤ 9999) hbd (hRD2 p hp).2.2⟩, hRE1, hRE2, hRF, hRG, RH_cg (σ := σ) rfl rfl rfl rfl rfl hRH⟩
theorem E_recut {nr ng np nb : Nat} {σ : Mm} (x y : Int32) (hI : INV nr ng np nb σ) : ((fun E : String => (E = sIOB ∧ ¬ (0 ≤ x ∧ x < nI ng)) ∨ (E = sIAE ∧ (0 ≤ x ∧ x < nI ng) ∧ ∃ i, i < ng ∧ x = nI i ∧ ¬ (1 ≤ y ∧ y ≤ σ 47 i - 1))) sIOB → cd2 (0 ≤ x ∧ x < nI ng) (1 ≤ y ∧ y ≤ σ 88 x.toNatClampNeg - 1) = 1) ∧ ((fun E : String => (E = sIOB ∧ ¬ (0 ≤ x ∧ x < nI ng)) ∨ (E = sIAE ∧ (0 ≤ x ∧ x < nI ng) ∧ ∃ i, i < ng ∧ x = nI i ∧ ¬ (1 ≤ y ∧ y ≤ σ 47 i - 1))) sIAE → cd2 (0 ≤ x ∧ x < nI ng) (1 ≤ y ∧ y ≤ σ 88 x.toNatClampNeg - 1) = 2) := by
  have hI0 := hI
  obtain ⟨hIC, hHZ, hML, hRA, hRB, hRC, hRD1, hRD2, hRE1, hRE2, hRF, hRG, hRH⟩ := hI
  have hRA2 := hRA
  obtain ⟨a1, a21, a23, a24, a25, a26, a28, a29, a30, a31, a32, a33, a3, a5, a8, a7, a6, a10, a40, a47, a44, a45, a43, a48, a50, a51, a12, a14⟩ := hRA2
  have hML2 := hML
  obtain ⟨hm1, hm3, hm26, hm18, hnp, hnr, hng, hnb5, hb, hsc, hlc, hpa, hro, hof, hte⟩ := hML2
  have hIC2 := hIC
  obtain ⟨i1, i2, ⟨i3, i4⟩, i5, i6, ⟨i7, i8⟩, i9, i10, i11⟩ := hIC2
  refine ⟨fun h => ?_, fun h => ?_⟩
  · rcases h with ⟨_, h1⟩ | ⟨h, _⟩
    · exact cd2_1 h1
    · exact absurd h (by decide)
  · rcases h with ⟨h, _⟩ | ⟨_, h1, h2⟩
    · exact absurd h (by decide)
    · obtain ⟨i, hi, rfl, hn⟩ := h2
      refine cd2_2 h1 (fun z => hn ?_)
      rw [nI_clamp (by omega)] at z
      rw [a47]
      exact z
set_option maxRecDepth 10000 in
set_option maxHeartbeats 1000000 in
theorem S_polished {nr ng np nb : Nat} {σ σ2 : Mm} {ov : Int32} (x y : Int32) (hI : INV nr ng np nb σ) (hp : ∃ i, i < ng ∧ x = nI i ∧ (0 ≤ y ∧ y ≤ 8) ∧ ov = poC σ i y ∧ σ2 = σ) : (ML nr ng np nb (up σ2 99 0 ov)) ∧ cd2 (0 ≤ x ∧ x < nI ng) (0 ≤ y ∧ y ≤ 8) = 0 ∧ ov = poM (up (up σ2 99 0 ov) 60 0 0) x.toNatClampNeg y ∧ ((up (up σ2 99 0 ov) 60 0 0)) 60 0 = 0 ∧ ((up (up σ2 99 0 ov) 60 0 0)) 99 0 = ov ∧ INV nr ng np nb ((up (up σ2 99 0 ov) 60 0 0)) := by
  have hI0 := hI
  obtain ⟨hIC, hHZ, hML, hRA, hRB, hRC, hRD1, hRD2, hRE1, hRE2, hRF, hRG, hRH⟩ := hI
  have hRA2 := hRA
  obtain ⟨a1, a21, a23, a24, a25, a26, a28, a29, a30, a31, a32, a33, a3, a5, a8, a7, a6, a10, a40, a47, a44, a45, a43, a48, a50, a51, a12, a14⟩ := hRA2
  have hML2 := hML
  obtain ⟨hm1, hm3, hm26, hm18, hnp, hnr, hng, hnb5, hb, hsc, hlc, hpa, hro, hof, hte⟩ := hML2
  have hIC2 := hIC
  obtain ⟨i1, i2, ⟨i3, i4⟩, i5, i6, ⟨i7, i8⟩, i9, i10, i11⟩ := hIC2
  obtain ⟨i, hi, rfl, hy, rfl, rfl⟩ := hp
  refine ⟨hML, cd2_t ⟨nI_rg hi (by omega), hy⟩, ?_, rfl, rfl, INV_60 0 (INV_99 _ hI0)⟩
  rw [nI_clamp (by omega)]
  show poC σ2 i y = poM σ2 i y
  unfold poC poM
  rw [a40, a47, a44, a45, a43, gr_eq a51 hRB, a48, (hRD2 i hi).2.1]
theorem E_polished {nr ng np nb : Nat} {σ : Mm} (x y : Int32) (hI : INV nr ng np nb σ) : ((fun E : String => (E = sIOB ∧ ¬ (0 ≤ x ∧ x < nI ng)) ∨ (E = sIAE ∧ (0 ≤ x ∧ x < nI ng) ∧ ¬ (0 ≤ y ∧ y ≤ 8))) sIOB → cd2 (0 ≤ x ∧ x < nI ng) (0 ≤ y ∧ y ≤ 8) = 1) ∧ ((fun E : String => (E = sIOB ∧ ¬ (0 ≤ x ∧ x < nI ng)) ∨ (E = sIAE ∧ (0 ≤ x ∧ x < nI ng) ∧ ¬ (0 ≤ y ∧ y ≤ 8))) sIAE → cd2 (0 ≤ x ∧ x < nI ng) (0 ≤ y ∧ y ≤ 8) = 2) := by
  have hI0 := hI
  obtain ⟨hIC, hHZ, hML, hRA, hRB, hRC, hRD1, hRD2, hRE1, hRE2, hRF, hRG, hRH⟩ := hI
  have hRA2 := hRA
  obtain ⟨a1, a21, a23, a24, a25, a26, a28, a29, a30, a31, a32, a33, a3, a5, a8, a7, a6, a10, a40, a47, a44, a45, a43, a48, a50, a51, a12, a14⟩ := hRA2
  have hML2 := hML
  obtain ⟨hm1, hm3, hm26, hm18, hnp, hnr, hng, hnb5, hb, hsc, hlc, hpa, hro, hof, hte⟩ := hML2
  have hIC2 := hIC
  obtain ⟨i1, i2, ⟨i3, i4⟩, i5, i6, ⟨i7, i8⟩, i9, i10, i11⟩ := hIC2
  refine ⟨fun h => ?_, fun h => ?_⟩
  · rcases h with ⟨_, h1⟩ | ⟨h, _⟩
    · exact cd2_1 h1
    · exact absurd h (by decide)
  · rcases h with ⟨h, _⟩ | ⟨_, h1, h2⟩
    · exact absurd h (by decide)
    · exact cd2_2 h1 h2
set_option maxRecDepth 10000 in
set_option maxHeartbeats 1000000 in
theorem S_scale {nr ng np nb : Nat} {σ σ2 : Mm} {ov : Int32} (x y : Int32) (hI : INV nr ng np nb σ) (hp : ∃ j, j < 3 ∧ x = nI j ∧ ((-1) ≤ y ∧ y ≤ 1) ∧ ov = σ 12 j ∧ σ2 = (up σ 12 j y)) : (ML nr ng np nb (up σ2 99 0 ov)) ∧ cd2 (0 ≤ x ∧ x ≤ 2) ((-1) ≤ y ∧ y ≤ 1) = 0 ∧ ov = (up (up σ2 99 0 ov) 60 0 0) 96 x.toNatClampNeg ∧ (up (up (up σ2 99 0 ov) 60 0 0) 96 x.toNatClampNeg y) 60 0 = 0 ∧ (up (up (up σ2 99 0 ov) 60 0 0) 96 x.toNatClampNeg y) 99 0 = ov ∧ INV nr ng np nb (up (up (up σ2 99 0 ov) 60 0 0) 96 x.toNatClampNeg y) := by
  have hI0 := hI
  obtain ⟨hIC, hHZ, hML, hRA, hRB, hRC, hRD1, hRD2, hRE1, hRE2, hRF, hRG, hRH⟩ := hI
  have hRA2 := hRA
  obtain ⟨a1, a21, a23, a24, a25, a26, a28, a29, a30, a31, a32, a33, a3, a5, a8, a7, a6, a10, a40, a47, a44, a45, a43, a48, a50, a51, a12, a14⟩ := hRA2
  have hML2 := hML
  obtain ⟨hm1, hm3, hm26, hm18, hnp, hnr, hng, hnb5, hb, hsc, hlc, hpa, hro, hof, hte⟩ := hML2
  have hIC2 := hIC
  obtain ⟨i1, i2, ⟨i3, i4⟩, i5, i6, ⟨i7, i8⟩, i9, i10, i11⟩ := hIC2
  obtain ⟨j, hj, rfl, hy, rfl, rfl⟩ := hp
  refine ⟨hML, cd2_t ⟨⟨(nI_rg hj (by omega)).1, (leL (a := 2) (b := nI 3) (by decide)).mpr (nI_rg hj (by omega)).2⟩, hy⟩, ?_, rfl, rfl, ?_⟩
  · rw [nI_clamp (by omega)]
    show σ 12 j = σ 96 j
    rw [a12]
  · rw [nI_clamp (by omega)]
    exact I_scale hI0
theorem E_scale {nr ng np nb : Nat} {σ : Mm} (x y : Int32) (hI : INV nr ng np nb σ) : ((fun E : String => (E = sIOB ∧ ¬ (0 ≤ x ∧ x < nI 3)) ∨ (E = sIAE ∧ (0 ≤ x ∧ x < nI 3) ∧ ¬ ((-1) ≤ y ∧ y ≤ 1))) sIOB → cd2 (0 ≤ x ∧ x ≤ 2) ((-1) ≤ y ∧ y ≤ 1) = 1) ∧ ((fun E : String => (E = sIOB ∧ ¬ (0 ≤ x ∧ x < nI 3)) ∨ (E = sIAE ∧ (0 ≤ x ∧ x < nI 3) ∧ ¬ ((-1) ≤ y ∧ y ≤ 1))) sIAE → cd2 (0 ≤ x ∧ x ≤ 2) ((-1) ≤ y ∧ y ≤ 1) = 2) := by
  have hI0 := hI
  obtain ⟨hIC, hHZ, hML, hRA, hRB, hRC, hRD1, hRD2, hRE1, hRE2, hRF, hRG, hRH⟩ := hI
  have hRA2 := hRA
  obtain ⟨a1, a21, a23, a24, a25, a26, a28, a29, a30, a31, a32, a33, a3, a5, a8, a7, a6, a10, a40, a47, a44, a45, a43, a48, a50, a51, a12, a14⟩ := hRA2
  have hML2 := hML
  obtain ⟨hm1, hm3, hm26, hm18, hnp, hnr, hng, hnb5, hb, hsc, hlc, hpa, hro, hof, hte⟩ := hML2
  have hIC2 := hIC
  obtain ⟨i1, i2, ⟨i3, i4⟩, i5, i6, ⟨i7, i8⟩, i9, i10, i11⟩ := hIC2
  refine ⟨fun h => ?_, fun h => ?_⟩
  · rcases h with ⟨_, h1⟩ | ⟨h, _⟩
    · exact cd2_1 (fun z => h1 ⟨z.1, (leL (a := 2) (b := nI 3) (by decide)).mp z.2⟩)
    · exact absurd h (by decide)
  · rcases h with ⟨h, _⟩ | ⟨_, h1, h2⟩
    · exact absurd h (by decide)
    · exact cd2_2 ⟨h1.1, (leL (a := 2) (b := nI 3) (by decide)).mpr h1.2⟩ h2
set_option maxRecDepth 10000 in
set_option maxHeartbeats 1000000 in
theorem S_look {nr ng np nb : Nat} {σ σ2 : Mm} {ov : Int32} (x y : Int32) (hI : INV nr ng np nb σ) (hp : ∃ j i, j < 3 ∧ i < ng ∧ x = nI j ∧ y = nI i ∧ ((σ 50 i >>> (nI j &&& 31)) &&& 1 = 0 ∧ gradeC σ i = -1) ∧ ov = (mxI 0 (mnI 9 (σ 41 i + σ 12 j))) ∧ σ2 = (up (up (up (up (up σ 50 i (σ 50 i ||| ((1 : Int32) <<< (nI j &&& 31)))) 51 i (σ 51 i + 1)) 52 i (iF (σ 51 i = 0) (mxI 0 (mnI 9 (σ 41 i + σ 12 j))) (σ 52 i))) 53 i (iF (σ 51 i = 1) (mxI 0 (mnI 9 (σ 41 i + σ 12 j))) (σ 53 i))) 54 i (iF (¬ σ 51 i = 0 ∧ ¬ σ 51 i = 1) (mxI 0 (mnI 9 (σ 41 i + σ 12 j))) (σ 54 i)))) : (ML nr ng np nb (up σ2 99 0 ov) ∧ (∀ j, bd18 ((up σ2 99 0 ov) 94 j))) ∧ cd2 ((0 ≤ x ∧ x ≤ 2) ∧ (0 ≤ y ∧ y < nI ng)) (((up σ2 99 0 ov) 95 y.toNatClampNeg >>> (x &&& 31)) &&& 1 = 0 ∧ gradeM (up σ2 99 0 ov) y.toNatClampNeg = -1) = 0 ∧ ov = (mxI 0 (mnI 9 ((up (up σ2 99 0 ov) 60 0 0) 67 ((up (up σ2 99 0 ov) 60 0 0) 87 y.toNatClampNeg).toNatClampNeg + (up (up σ2 99 0 ov) 60 0 0) 96 x.toNatClampNeg))) ∧ (up (up (up (up (up σ2 99 0 ov) 60 0 0) 94 (3 * y.toNatClampNeg + ((up (up σ2 99 0 ov) 60 0 0) 93 y.toNatClampNeg).toNatClampNeg) (mxI 0 (mnI 9 ((up (up σ2 99 0 ov) 60 0 0) 67 ((up (up σ2 99 0 ov) 60 0 0) 87 y.toNatClampNeg).toNatClampNeg + (up (up σ2 99 0 ov) 60 0 0) 96 x.toNatClampNeg)))) 93 y.toNatClampNeg ((up (up σ2 99 0 ov) 60 0 0) 93 y.toNatClampNeg + 1)) 95 y.toNatClampNeg ((up (up σ2 99 0 ov) 60 0 0) 95 y.toNatClampNeg ||| ((1 : Int32) <<< (x &&& 31)))) 60 0 = 0 ∧ (up (up (up (up (up σ2 99 0 ov) 60 0 0) 94 (3 * y.toNatClampNeg + ((up (up σ2 99 0 ov) 60 0 0) 93 y.toNatClampNeg).toNatClampNeg) (mxI 0 (mnI 9 ((up (up σ2 99 0 ov) 60 0 0) 67 ((up (up σ2 99 0 ov) 60 0 0) 87 y.toNatClampNeg).toNatClampNeg + (up (up σ2 99 0 ov) 60 0 0) 96 x.toNatClampNeg)))) 93 y.toNatClampNeg ((up (up σ2 99 0 ov) 60 0 0) 93 y.toNatClampNeg + 1)) 95 y.toNatClampNeg ((up (up σ2 99 0 ov) 60 0 0) 95 y.toNatClampNeg ||| ((1 : Int32) <<< (x &&& 31)))) 99 0 = ov ∧ INV nr ng np nb (up (up (up (up (up σ2 99 0 ov) 60 0 0) 94 (3 * y.toNatClampNeg + ((up (up σ2 99 0 ov) 60 0 0) 93 y.toNatClampNeg).toNatClampNeg) (mxI 0 (mnI 9 ((up (up σ2 99 0 ov) 60 0 0) 67 ((up (up σ2 99 0 ov) 60 0 0) 87 y.toNatClampNeg).toNatClampNeg + (up (up σ2 99 0 ov) 60 0 0) 96 x.toNatClampNeg)))) 93 y.toNatClampNeg ((up (up σ2 99 0 ov) 60 0 0) 93 y.toNatClampNeg + 1)) 95 y.toNatClampNeg ((up (up σ2 99 0 ov) 60 0 0) 95 y.toNatClampNeg ||| ((1 : Int32) <<< (x &&& 31)))) := by
  have hI0 := hI
  obtain ⟨hIC, hHZ, hML, hRA, hRB, hRC, hRD1, hRD2, hRE1, hRE2, hRF, hRG, hRH⟩ := hI
  have hRA2 := hRA
  obtain ⟨a1, a21, a23, a24, a25, a26, a28, a29, a30, a31, a32, a33, a3, a5, a8, a7, a6, a10, a40, a47, a44, a45, a43, a48, a50, a51, a12, a14⟩ := hRA2
  have hML2 := hML
  obtain ⟨hm1, hm3, hm26, hm18, hnp, hnr, hng, hnb5, hb, hsc, hlc, hpa, hro, hof, hte⟩ := hML2
  have hIC2 := hIC
  obtain ⟨i1, i2, ⟨i3, i4⟩, i5, i6, ⟨i7, i8⟩, i9, i10, i11⟩ := hIC2
  obtain ⟨j, i, hj, hi, rfl, rfl, ⟨hbit, hg⟩, rfl, rfl⟩ := hp
  obtain ⟨cc, hc3, hc⟩ := hlc i hi
  have hn51 : σ 51 i = nI cc := by rw [a51]; exact hc
  have hgM : gradeM σ i = -1 := by rw [← gr_eq a51 hRB]; exact hg
  have hc2 : cc < 3 := by
    rcases (show cc < 3 ∨ cc = 3 by omega) with z | z
    · exact z
    · exfalso
      unfold gradeM at hgM
      rw [hc, z] at hgM
      exact grade_3 (hRB.2.2 _) (hRB.2.2 _) (hRB.2.2 _) hgM
  have hTT : mxI 0 (mnI 9 (σ 67 (σ 87 i).toNatClampNeg + σ 96 j)) = mxI 0 (mnI 9 (σ 41 i + σ 12 j)) := by rw [a12, (hRD2 i hi).1]
  have hbT : bd18 (mxI 0 (mnI 9 (σ 67 (σ 87 i).toNatClampNeg + σ 96 j))) := bd_T (M := 9) (by omega)
  rw [nI_clamp (by omega), nI_clamp (by omega)]
  refine ⟨⟨hML, hRB.2.2⟩, cd2_t ⟨⟨⟨(nI_rg hj (by omega)).1, (leL (a := 2) (b := nI 3) (by decide)).mpr (nI_rg hj (by omega)).2⟩, nI_rg hi (by omega)⟩, ?_⟩, ?_, rfl, rfl, ?_⟩
  · show (σ 95 i >>> (nI j &&& 31)) &&& 1 = 0 ∧ gradeM σ i = -1
    rw [← a50]
    exact ⟨hbit, hgM⟩
  · exact hTT.symm
  · have hix : 3 * i + (σ 93 i).toNatClampNeg = 3 * i + cc := by rw [hc, nI_clamp (by omega)]
    have hRB2 := op_eq (i := i) (n := σ 51 i) (u := mxI 0 (mnI 9 (σ 67 (σ 87 i).toNatClampNeg + σ 96 j))) (t := mxI 0 (mnI 9 (σ 41 i + σ 12 j))) hc2 hn51 hTT hRB.2.1
    rw [← hix] at hRB2
    have hb2 : ∀ q, bd18 (upd (σ 94) (3 * i + (σ 93 i).toNatClampNeg) (mxI 0 (mnI 9 (σ 67 (σ 87 i).toNatClampNeg + σ 96 j))) q) := fun q => upd_p bd18 hbT (hRB.2.2 q)
    have ha51 : upd (σ 51) i (σ 51 i + 1) = upd (σ 93) i (σ 93 i + 1) := by rw [a51]
    have hlc2 : ∀ s, s < ng → ∃ c, c ≤ 3 ∧ upd (σ 93) i (σ 93 i + 1) s = nI c := fun s hs => by
      by_cases e : s = i
      · subst e; exact ⟨cc + 1, by omega, by rw [pk_us, hc]; exact nI_1 cc⟩
      · rw [pk_un e]; exact hlc s hs
    exact ⟨hIC, hHZ, ⟨hm1, hm3, hm26, hm18, hnp, hnr, hng, hnb5, hb, hsc, hlc2, hpa, hro, hof, hte⟩, ⟨a1, a21, a23, a24, a25, a26, a28, a29, a30, a31, a32, a33, a3, a5, a8, a7, a6, a10, a40, a47, a44, a45, a43, a48, (by
        show upd (σ 50) i (σ 50 i ||| ((1 : Int32) <<< (nI j &&& 31))) = upd (σ 95) i (σ 95 i ||| ((1 : Int32) <<< (nI j &&& 31)))
        rw [a50]), ha51, a12, a14⟩, ⟨hRB.1, hRB2, hb2⟩, hRC, hRD1, hRD2, hRE1, fun p hp => by
        obtain ⟨q1, q2, q3, q4, q5⟩ := hRE2 p hp
        have e : p ≠ i := by omega
        exact ⟨(pk_un e).trans q1, (pk_un e).trans q2, (pk_un e).trans q3, (pk_un e).trans q4, (pk_un e).trans q5⟩, hRF, hRG, RH_cg (σ := σ) rfl rfl rfl rfl rfl hRH⟩
theorem E_look {nr ng np nb : Nat} {σ : Mm} (x y : Int32) (hI : INV nr ng np nb σ) : ((fun E : String => (E = sIOB ∧ ¬ ((0 ≤ x ∧ x < nI 3) ∧ (0 ≤ y ∧ y < nI ng))) ∨ (E = sISE ∧ ((0 ≤ x ∧ x < nI 3) ∧ (0 ≤ y ∧ y < nI ng)) ∧ ∃ j i, j < 3 ∧ i < ng ∧ x = nI j ∧ y = nI i ∧ ¬ ((σ 50 i >>> (nI j &&& 31)) &&& 1 = 0 ∧ gradeC σ i = -1))) sIOB → cd2 ((0 ≤ x ∧ x ≤ 2) ∧ (0 ≤ y ∧ y < nI ng)) ((σ 95 y.toNatClampNeg >>> (x &&& 31)) &&& 1 = 0 ∧ gradeM σ y.toNatClampNeg = -1) = 1) ∧ ((fun E : String => (E = sIOB ∧ ¬ ((0 ≤ x ∧ x < nI 3) ∧ (0 ≤ y ∧ y < nI ng))) ∨ (E = sISE ∧ ((0 ≤ x ∧ x < nI 3) ∧ (0 ≤ y ∧ y < nI ng)) ∧ ∃ j i, j < 3 ∧ i < ng ∧ x = nI j ∧ y = nI i ∧ ¬ ((σ 50 i >>> (nI j &&& 31)) &&& 1 = 0 ∧ gradeC σ i = -1))) sISE → cd2 ((0 ≤ x ∧ x ≤ 2) ∧ (0 ≤ y ∧ y < nI ng)) ((σ 95 y.toNatClampNeg >>> (x &&& 31)) &&& 1 = 0 ∧ gradeM σ y.toNatClampNeg = -1) = 2) := by
  have hI0 := hI
  obtain ⟨hIC, hHZ, hML, hRA, hRB, hRC, hRD1, hRD2, hRE1, hRE2, hRF, hRG, hRH⟩ := hI
  have hRA2 := hRA
  obtain ⟨a1, a21, a23, a24, a25, a26, a28, a29, a30, a31, a32, a33, a3, a5, a8, a7, a6, a10, a40, a47, a44, a45, a43, a48, a50, a51, a12, a14⟩ := hRA2
  have hML2 := hML
  obtain ⟨hm1, hm3, hm26, hm18, hnp, hnr, hng, hnb5, hb, hsc, hlc, hpa, hro, hof, hte⟩ := hML2
  have hIC2 := hIC
  obtain ⟨i1, i2, ⟨i3, i4⟩, i5, i6, ⟨i7, i8⟩, i9, i10, i11⟩ := hIC2
  refine ⟨fun h => ?_, fun h => ?_⟩
  · rcases h with ⟨_, h1⟩ | ⟨h, _⟩
    · exact cd2_1 (fun z => h1 ⟨⟨z.1.1, (leL (a := 2) (b := nI 3) (by decide)).mp z.1.2⟩, z.2⟩)
    · exact absurd h (by decide)
  · rcases h with ⟨h, _⟩ | ⟨_, h1, h2⟩
    · exact absurd h (by decide)
    · obtain ⟨j, i, hj, hi, rfl, rfl, hn⟩ := h2
      refine cd2_2 ⟨⟨h1.1.1, (leL (a := 2) (b := nI 3) (by decide)).mpr h1.1.2⟩, h1.2⟩ (fun z => hn ?_)
      rw [nI_clamp (by omega)] at z
      rw [a50, gr_eq a51 hRB]
      exact z
set_option maxRecDepth 10000 in
set_option maxHeartbeats 1000000 in
theorem S_paper {nr ng np nb : Nat} {σ σ2 : Mm} {ov : Int32} (x y : Int32) (hI : INV nr ng np nb σ) (hp : ∃ i j, i < ng ∧ j < 4 ∧ x = nI i ∧ y = nI j ∧ (σ 48 i = -1 ∧ 0 ≤ (σ 13 j - σ 14 j - σ 47 i)) ∧ ov = (σ 13 j - σ 14 j - σ 47 i) ∧ σ2 = (up (up σ 48 i (nI j)) 14 j (σ 14 j + σ 47 i))) : (ML nr ng np nb (up σ2 99 0 ov)) ∧ cd2 ((0 ≤ x ∧ x < nI ng) ∧ (0 ≤ y ∧ y ≤ 3)) ((up σ2 99 0 ov) 92 x.toNatClampNeg = -1 ∧ (up σ2 99 0 ov) 97 y.toNatClampNeg + (up σ2 99 0 ov) 88 x.toNatClampNeg ≤ cmM (up σ2 99 0 ov) y nr) = 0 ∧ ov = cmM (up (up (up (up σ2 99 0 ov) 60 0 0) 92 x.toNatClampNeg y) 97 y.toNatClampNeg ((up (up σ2 99 0 ov) 60 0 0) 97 y.toNatClampNeg + (up (up σ2 99 0 ov) 60 0 0) 88 x.toNatClampNeg)) y nr - (up (up (up (up σ2 99 0 ov) 60 0 0) 92 x.toNatClampNeg y) 97 y.toNatClampNeg ((up (up σ2 99 0 ov) 60 0 0) 97 y.toNatClampNeg + (up (up σ2 99 0 ov) 60 0 0) 88 x.toNatClampNeg)) 97 y.toNatClampNeg ∧ (up (up (up (up σ2 99 0 ov) 60 0 0) 92 x.toNatClampNeg y) 97 y.toNatClampNeg ((up (up σ2 99 0 ov) 60 0 0) 97 y.toNatClampNeg + (up (up σ2 99 0 ov) 60 0 0) 88 x.toNatClampNeg)) 60 0 = 0 ∧ (up (up (up (up σ2 99 0 ov) 60 0 0) 92 x.toNatClampNeg y) 97 y.toNatClampNeg ((up (up σ2 99 0 ov) 60 0 0) 97 y.toNatClampNeg + (up (up σ2 99 0 ov) 60 0 0) 88 x.toNatClampNeg)) 99 0 = ov ∧ INV nr ng np nb (up (up (up (up σ2 99 0 ov) 60 0 0) 92 x.toNatClampNeg y) 97 y.toNatClampNeg ((up (up σ2 99 0 ov) 60 0 0) 97 y.toNatClampNeg + (up (up σ2 99 0 ov) 60 0 0) 88 x.toNatClampNeg)) := by
  have hI0 := hI
  obtain ⟨hIC, hHZ, hML, hRA, hRB, hRC, hRD1, hRD2, hRE1, hRE2, hRF, hRG, hRH⟩ := hI
  have hRA2 := hRA
  obtain ⟨a1, a21, a23, a24, a25, a26, a28, a29, a30, a31, a32, a33, a3, a5, a8, a7, a6, a10, a40, a47, a44, a45, a43, a48, a50, a51, a12, a14⟩ := hRA2
  have hML2 := hML
  obtain ⟨hm1, hm3, hm26, hm18, hnp, hnr, hng, hnb5, hb, hsc, hlc, hpa, hro, hof, hte⟩ := hML2
  have hIC2 := hIC
  obtain ⟨i1, i2, ⟨i3, i4⟩, i5, i6, ⟨i7, i8⟩, i9, i10, i11⟩ := hIC2
  obtain ⟨i, j, hi, hj, rfl, rfl, ⟨h48, hl⟩, rfl, rfl⟩ := hp
  have hW : ∀ i, i < nr → ∃ W, W ≤ 9999 ∧ σ 65 i = nI W := fun i hi => by
    obtain ⟨m, h1, h2, h3⟩ := rg_of (a := 12) (b := 9999) (by decide) (hRD1 i hi).2.2.1
    exact ⟨m, h2, by rw [← a23]; exact h3⟩
  obtain ⟨N, hN1, hN2⟩ := cmM_bd hW (nI j) nr (Nat.le_refl _)
  obtain ⟨g1, g2, g3⟩ := hRH j hj
  obtain ⟨V, hV1, hV2, hV3⟩ := rg_of (a := 0) (b := N) (x := σ 14 j) ⟨Nat.zero_le _, by omega⟩ ⟨g2, by rw [← hN2, ← g1]; exact g3⟩
  obtain ⟨W, hW1, hW2, hW3⟩ := rg_of (a := 0) (b := 9999) (x := σ 47 i) (by decide) (hRD2 i hi).2.2
  have hlf := left_iff (C := N) (V := V) (W := W) (by omega) hV2 (by omega)
  rw [g1, hN2, hV3, hW3] at hl
  have hle := hlf.1.mp hl
  have hVW : V + W ≤ N := by
    rw [nI_add V W] at hle
    exact (nI_leI (by omega) (by omega)).mp hle
  have hsum : σ 14 j + σ 47 i = nI (V + W) := by rw [hV3, hW3]; exact nI_add V W
  refine ⟨hML, cd2_t ⟨⟨nI_rg hi (by omega), ⟨(nI_rg hj (by omega)).1, (leL (a := 3) (b := nI 4) (by decide)).mpr (nI_rg hj (by omega)).2⟩⟩, ?_⟩, ?_, rfl, rfl, ?_⟩
  · rw [nI_clamp (by omega), nI_clamp (by omega), cmM_up (by decide), cmM_up (by decide), cmM_up (by decide)]
    show σ 92 i = -1 ∧ σ 97 j + σ 88 i ≤ cmM σ (nI j) nr
    rw [hN2, ← a48, ← a14, ← a47, hV3, hW3]
    exact ⟨h48, hle⟩
  · rw [nI_clamp (by omega), nI_clamp (by omega), cmM_up (by decide), cmM_up (by decide), cmM_up (by decide), cmM_up (by decide), cmM_up (by decide), cmM_up (by decide)]
    show σ 13 j - σ 14 j - σ 47 i = cmM σ (nI j) nr - upd (σ 97) j (σ 97 j + σ 88 i) j
    rw [pk_us, g1, hN2, ← a14, ← a47, hV3, hW3, hlf.2 hVW, nI_add V W, pk_sub hVW, Nat.sub_sub]
  · rw [nI_clamp (by omega), nI_clamp (by omega)]
    exact ⟨hIC, hHZ, hML, ⟨a1, a21, a23, a24, a25, a26, a28, a29, a30, a31, a32, a33, a3, a5, a8, a7, a6, a10, a40, a47, a44, a45, a43, (congrArg (fun g => upd g i (nI j)) a48), a50, a51, a12, (by
      show upd (σ 14) j (σ 14 j + σ 47 i) = upd (σ 97) j (σ 97 j + σ 88 i)
      rw [a14, a47])⟩, hRB, hRC, hRD1, hRD2, hRE1, hRE2, hRF, hRG, fun q hq => by
      rw [cmM_up (by decide), cmM_up (by decide), cmM_up (by decide), cmM_up (by decide), cmM_up (by decide), cmM_up (by decide)]
      show σ 13 q = cmM σ (nI q) nr ∧ 0 ≤ upd (σ 14) j (σ 14 j + σ 47 i) q ∧ upd (σ 14) j (σ 14 j + σ 47 i) q ≤ σ 13 q
      refine ⟨(hRH q hq).1, ?_⟩
      by_cases e : q = j
      · subst e
        rw [pk_us, hsum, g1, hN2]
        exact ⟨nI_pos' (by omega), (nI_leI (by omega) (by omega)).mpr hVW⟩
      · rw [pk_un e]; exact (hRH q hq).2⟩
theorem E_paper {nr ng np nb : Nat} {σ : Mm} (x y : Int32) (hI : INV nr ng np nb σ) : ((fun E : String => (E = sIOB ∧ ¬ ((0 ≤ x ∧ x < nI ng) ∧ (0 ≤ y ∧ y < nI 4))) ∨ (E = sISE ∧ ((0 ≤ x ∧ x < nI ng) ∧ (0 ≤ y ∧ y < nI 4)) ∧ ∃ i j, i < ng ∧ j < 4 ∧ x = nI i ∧ y = nI j ∧ ¬ (σ 48 i = -1 ∧ 0 ≤ (σ 13 j - σ 14 j - σ 47 i)))) sIOB → cd2 ((0 ≤ x ∧ x < nI ng) ∧ (0 ≤ y ∧ y ≤ 3)) (σ 92 x.toNatClampNeg = -1 ∧ σ 97 y.toNatClampNeg + σ 88 x.toNatClampNeg ≤ cmM σ y nr) = 1) ∧ ((fun E : String => (E = sIOB ∧ ¬ ((0 ≤ x ∧ x < nI ng) ∧ (0 ≤ y ∧ y < nI 4))) ∨ (E = sISE ∧ ((0 ≤ x ∧ x < nI ng) ∧ (0 ≤ y ∧ y < nI 4)) ∧ ∃ i j, i < ng ∧ j < 4 ∧ x = nI i ∧ y = nI j ∧ ¬ (σ 48 i = -1 ∧ 0 ≤ (σ 13 j - σ 14 j - σ 47 i)))) sISE → cd2 ((0 ≤ x ∧ x < nI ng) ∧ (0 ≤ y ∧ y ≤ 3)) (σ 92 x.toNatClampNeg = -1 ∧ σ 97 y.toNatClampNeg + σ 88 x.toNatClampNeg ≤ cmM σ y nr) = 2) := by
  have hI0 := hI
  obtain ⟨hIC, hHZ, hML, hRA, hRB, hRC, hRD1, hRD2, hRE1, hRE2, hRF, hRG, hRH⟩ := hI
  have hRA2 := hRA
  obtain ⟨a1, a21, a23, a24, a25, a26, a28, a29, a30, a31, a32, a33, a3, a5, a8, a7, a6, a10, a40, a47, a44, a45, a43, a48, a50, a51, a12, a14⟩ := hRA2
  have hML2 := hML
  obtain ⟨hm1, hm3, hm26, hm18, hnp, hnr, hng, hnb5, hb, hsc, hlc, hpa, hro, hof, hte⟩ := hML2
  have hIC2 := hIC
  obtain ⟨i1, i2, ⟨i3, i4⟩, i5, i6, ⟨i7, i8⟩, i9, i10, i11⟩ := hIC2
  refine ⟨fun h => ?_, fun h => ?_⟩
  · rcases h with ⟨_, h1⟩ | ⟨h, _⟩
    · exact cd2_1 (fun z => h1 ⟨z.1, ⟨z.2.1, (leL (a := 3) (b := nI 4) (by decide)).mp z.2.2⟩⟩)
    · exact absurd h (by decide)
  · rcases h with ⟨h, _⟩ | ⟨_, h1, h2⟩
    · exact absurd h (by decide)
    · obtain ⟨i, j, hi, hj, rfl, rfl, hn⟩ := h2
      have hW : ∀ i, i < nr → ∃ W, W ≤ 9999 ∧ σ 65 i = nI W := fun i hi => by
        obtain ⟨m, h1, h2, h3⟩ := rg_of (a := 12) (b := 9999) (by decide) (hRD1 i hi).2.2.1
        exact ⟨m, h2, by rw [← a23]; exact h3⟩
      obtain ⟨N, hN1, hN2⟩ := cmM_bd hW (nI j) nr (Nat.le_refl _)
      obtain ⟨g1, g2, g3⟩ := hRH j hj
      obtain ⟨V, hV1, hV2, hV3⟩ := rg_of (a := 0) (b := N) (x := σ 14 j) ⟨Nat.zero_le _, by omega⟩ ⟨g2, by rw [← hN2, ← g1]; exact g3⟩
      obtain ⟨W, hW1, hW2, hW3⟩ := rg_of (a := 0) (b := 9999) (x := σ 47 i) (by decide) (hRD2 i hi).2.2
      have hlf := left_iff (C := N) (V := V) (W := W) (by omega) hV2 (by omega)
      refine cd2_2 ⟨h1.1, ⟨h1.2.1, (leL (a := 3) (b := nI 4) (by decide)).mpr h1.2.2⟩⟩ (fun z => hn ?_)
      rw [nI_clamp (by omega), nI_clamp (by omega)] at z
      rw [a48, g1, hN2, hV3, hW3]
      refine ⟨z.1, hlf.1.mpr ?_⟩
      have z2 := z.2
      rw [hN2, ← a14, ← a47, hV3, hW3] at z2
      exact z2
set_option maxRecDepth 10000 in
set_option maxHeartbeats 1000000 in
theorem S_all {nr ng np nb : Nat} {σ σ2 : Mm} {ov : Int32} (y : Int32) (hI : INV nr ng np nb σ) (hp : (0 ≤ y ∧ y ≤ 5) ∧ ov = alC σ y ∧ σ2 = σ) : (ML nr ng np nb (up σ2 99 0 ov)) ∧ cd1 (0 ≤ y ∧ y ≤ 5) = 0 ∧ ov = alM (up (up σ2 99 0 ov) 60 0 0) nr ng y ∧ ((up (up σ2 99 0 ov) 60 0 0)) 60 0 = 0 ∧ ((up (up σ2 99 0 ov) 60 0 0)) 99 0 = ov ∧ INV nr ng np nb ((up (up σ2 99 0 ov) 60 0 0)) := by
  have hI0 := hI
  obtain ⟨hIC, hHZ, hML, hRA, hRB, hRC, hRD1, hRD2, hRE1, hRE2, hRF, hRG, hRH⟩ := hI
  have hRA2 := hRA
  obtain ⟨a1, a21, a23, a24, a25, a26, a28, a29, a30, a31, a32, a33, a3, a5, a8, a7, a6, a10, a40, a47, a44, a45, a43, a48, a50, a51, a12, a14⟩ := hRA2
  have hML2 := hML
  obtain ⟨hm1, hm3, hm26, hm18, hnp, hnr, hng, hnb5, hb, hsc, hlc, hpa, hro, hof, hte⟩ := hML2
  have hIC2 := hIC
  obtain ⟨i1, i2, ⟨i3, i4⟩, i5, i6, ⟨i7, i8⟩, i9, i10, i11⟩ := hIC2
  obtain ⟨hy, rfl, rfl⟩ := hp
  refine ⟨hML, cd1_t hy, ?_, rfl, rfl, INV_60 0 (INV_99 _ hI0)⟩
  rw [alM_up]
  have e1 := rw_eq i1 hHZ.1 a28 a23 hnr 40 (Nat.le_refl _)
  have e2 := pw_eq i2 hHZ.2 a47 hng 80 (Nat.le_refl _)
  have e3 := wp_eq i2 hHZ.2 a48 hRD2 hng 80 (Nat.le_refl _)
  rw [show Nat.min 40 nr = nr from Nat.min_eq_right hnr] at e1
  rw [show Nat.min 80 ng = ng from Nat.min_eq_right hng] at e2 e3
  have e0 : sumF (σ2 13) 4 = sumF (σ2 65) nr := by
    rw [← came_eq (nr := nr) (fun s hs => ?_) nr (Nat.le_refl _)]
    · show 0 + σ2 13 0 + σ2 13 1 + σ2 13 2 + σ2 13 3 = _
      rw [(hRH 0 (by decide)).1, (hRH 1 (by decide)).1, (hRH 2 (by decide)).1, (hRH 3 (by decide)).1, Int32.zero_add]
      rfl
    · obtain ⟨a, ha, hp2⟩ := hpa s hs
      obtain ⟨q, hq, hq2⟩ := i11 a ha
      refine ⟨q, hq, ?_⟩
      unfold pitM
      rw [hp2, nI_clamp (by omega), ← a1, hq2]
  unfold alC alM
  rw [e0, e1, e2, e3, hRC.2.2.2, a14]
theorem E_all {nr ng np nb : Nat} {σ : Mm} (y : Int32) (hI : INV nr ng np nb σ) : ((fun E : String => E = sIAE ∧ ¬ (0 ≤ y ∧ y ≤ 5)) sIAE → cd1 (0 ≤ y ∧ y ≤ 5) = 1) := by
  have hI0 := hI
  obtain ⟨hIC, hHZ, hML, hRA, hRB, hRC, hRD1, hRD2, hRE1, hRE2, hRF, hRG, hRH⟩ := hI
  have hRA2 := hRA
  obtain ⟨a1, a21, a23, a24, a25, a26, a28, a29, a30, a31, a32, a33, a3, a5, a8, a7, a6, a10, a40, a47, a44, a45, a43, a48, a50, a51, a12, a14⟩ := hRA2
  have hML2 := hML
  obtain ⟨hm1, hm3, hm26, hm18, hnp, hnr, hng, hnb5, hb, hsc, hlc, hpa, hro, hof, hte⟩ := hML2
  have hIC2 := hIC
  obtain ⟨i1, i2, ⟨i3, i4⟩, i5, i6, ⟨i7, i8⟩, i9, i10, i11⟩ := hIC2
  intro h
  obtain ⟨_, h1⟩ := h
  exact cd1_1 h1

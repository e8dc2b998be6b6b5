/-! ===== the law's question whether two books are alike ===== -/
abbrev WJ (D : Gt) (T1 : List Nat) (ad1 : Nat → Nat) (σ : Mm) (T2 : List Nat) (ad2 : Nat → Nat) (τ : Mm) (ax : Nat) (h : Nat → Int32) : St := jS (T1, ad1, cO D ad1 σ) (jS (T2, ad2, cO D ad2 τ) (oX D ax 64 h))
section RD
variable {nr ng nb : Nat} {σ : Mm} {S S1 : St} {r x y : Int32}
theorem ix_in {i n : Nat} (hi : i < n) (hn : n < 2 ^ 31) : 0 ≤ nI i ∧ nI i < nI n := ⟨nI_pos' (by omega), nI_lt hi hn⟩
theorem rd_si {i : Nat} (hi : i < nr) (hn : nr ≤ 14) (hy : 0 ≤ y ∧ y ≤ 6) (h : (∃ i0, i0 < nr ∧ nI i = nI i0 ∧ (0 ≤ y ∧ y ≤ 6) ∧ r = siC σ i0 y ∧ S1 = S) ∨ (r = -70 ∧ S1 = S ∧ ∃ E : String, (E = sIOB ∧ ¬ (0 ≤ nI i ∧ nI i < nI nr)) ∨ (E = sIAE ∧ (0 ≤ nI i ∧ nI i < nI nr) ∧ ¬ (0 ≤ y ∧ y ≤ 6)))) : r = siC σ i y ∧ S1 = S := by
  rcases h with ⟨i0, h0, e, -, h1, h2⟩ | ⟨-, -, E, ⟨-, g⟩ | ⟨-, -, g⟩⟩
  · rw [nI_eq (by omega) (by omega)] at e
    subst e; exact ⟨h1, h2⟩
  · exact absurd (ix_in hi (by omega)) g
  · exact absurd hy g
theorem rd_va {i : Nat} (hi : i < nr) (hn : nr ≤ 14) (h : (∃ i0, i0 < nr ∧ nI i = nI i0 ∧ r = valC σ i0 ∧ S1 = S) ∨ (r = -70 ∧ S1 = S ∧ ∃ E : String, E = sIOB ∧ ¬ (0 ≤ nI i ∧ nI i < nI nr))) : r = valC σ i ∧ S1 = S := by
  rcases h with ⟨i0, h0, e, h1, h2⟩ | ⟨-, -, E, -, g⟩
  · rw [nI_eq (by omega) (by omega)] at e
    subst e; exact ⟨h1, h2⟩
  · exact absurd (ix_in hi (by omega)) g
theorem rd_pl {i : Nat} (hi : i < nr) (hn : nr ≤ 14) (h : (∃ i0, i0 < nr ∧ nI i = nI i0 ∧ r = nI (plS (σ 26 i0) 12) ∧ S1 = S) ∨ (r = -70 ∧ S1 = S ∧ ∃ E : String, E = sIOB ∧ ¬ (0 ≤ nI i ∧ nI i < nI nr))) : r = nI (plS (σ 26 i) 12) ∧ S1 = S := by
  rcases h with ⟨i0, h0, e, h1, h2⟩ | ⟨-, -, E, -, g⟩
  · rw [nI_eq (by omega) (by omega)] at e
    subst e; exact ⟨h1, h2⟩
  · exact absurd (ix_in hi (by omega)) g
theorem rd_po {i : Nat} (hi : i < ng) (hn : ng ≤ 56) (hy : 0 ≤ y ∧ y ≤ 8) (h : (∃ i0, i0 < ng ∧ nI i = nI i0 ∧ (0 ≤ y ∧ y ≤ 8) ∧ r = poC σ i0 y ∧ S1 = S) ∨ (r = -70 ∧ S1 = S ∧ ∃ E : String, (E = sIOB ∧ ¬ (0 ≤ nI i ∧ nI i < nI ng)) ∨ (E = sIAE ∧ (0 ≤ nI i ∧ nI i < nI ng) ∧ ¬ (0 ≤ y ∧ y ≤ 8)))) : r = poC σ i y ∧ S1 = S := by
  rcases h with ⟨i0, h0, e, -, h1, h2⟩ | ⟨-, -, E, ⟨-, g⟩ | ⟨-, -, g⟩⟩
  · rw [nI_eq (by omega) (by omega)] at e
    subst e; exact ⟨h1, h2⟩
  · exact absurd (ix_in hi (by omega)) g
  · exact absurd hy g
theorem rd_al (hy : 0 ≤ y ∧ y ≤ 5) (h : ((0 ≤ y ∧ y ≤ 5) ∧ r = alC σ y ∧ S1 = S) ∨ (r = -70 ∧ S1 = S ∧ ∃ E : String, E = sIAE ∧ ¬ (0 ≤ y ∧ y ≤ 5))) : r = alC σ y ∧ S1 = S := by
  rcases h with ⟨-, h1, h2⟩ | ⟨-, -, E, -, g⟩
  · exact ⟨h1, h2⟩
  · exact absurd hy g
theorem rd_of {k : Nat} (hk : k < 6) (h : (∃ j, j < 5 ∧ nI k = nI j ∧ r = σ 7 j ∧ S1 = S) ∨ (r = -70 ∧ S1 = S ∧ ∃ E : String, E = sIOB ∧ ¬ (0 ≤ nI k ∧ nI k < nI 5))) : r = iF (k < 5) (σ 7 k) (-70) ∧ S1 = S := by
  rcases h with ⟨j, h0, e, h1, h2⟩ | ⟨h1, h2, E, -, g⟩
  · rw [nI_eq (by omega) (by omega)] at e
    subst e; exact ⟨by rw [iF_t h0]; exact h1, h2⟩
  · exact ⟨by rw [iF_f (fun z => g (ix_in z (by decide)))]; exact h1, h2⟩
theorem rd_bv {k : Nat} (hk : k < 6) (hn : nb ≤ 5) (h : (∃ j, j < nb ∧ nI k = nI j ∧ r = iF (offd σ (nI j)) (bvC σ (nI j) 40) (-1) ∧ S1 = S) ∨ (r = -70 ∧ S1 = S ∧ ∃ E : String, E = sIOB ∧ ¬ (0 ≤ nI k ∧ nI k < nI nb))) : r = iF (k < nb) (iF (offd σ (nI k)) (bvC σ (nI k) 40) (-1)) (-70) ∧ S1 = S := by
  rcases h with ⟨j, h0, e, h1, h2⟩ | ⟨h1, h2, E, -, g⟩
  · rw [nI_eq (by omega) (by omega)] at e
    subst e; exact ⟨by rw [iF_t h0]; exact h1, h2⟩
  · exact ⟨by rw [iF_f (fun z => g (ix_in z (by omega)))]; exact h1, h2⟩
theorem y_in {j n : Nat} (h : j ≤ n) (hn : n < 2 ^ 31) : 0 ≤ nI j ∧ nI j ≤ nI n := ⟨nI_pos' (by omega), nI_le h hn⟩
end RD
theorem heIA {p q : Prop} : ∀ E : String, ((E = sIOB ∧ p) ∨ (E = sIAE ∧ q)) → E = sIOB ∨ E = sIAE := fun E h => h.elim (fun h => Or.inl h.1) (fun h => Or.inr h.1)
theorem heI {p : Prop} : ∀ E : String, (E = sIOB ∧ p) → E = sIOB ∨ E = sIAE := fun E h => Or.inl h.1
theorem heI3 {p : Prop} : ∀ E : String, (E = sIOB ∧ p) → E = sIOB ∨ E = sIAE ∨ E = sISE := fun E h => Or.inl h.1
theorem heA3 {p : Prop} : ∀ E : String, (E = sIAE ∧ p) → E = sIOB ∨ E = sIAE ∨ E = sISE := fun E h => Or.inr (Or.inl h.1)
theorem heS3 {p : Prop} : ∀ E : String, (E = sISE ∧ p) → E = sIOB ∨ E = sIAE ∨ E = sISE := fun E h => Or.inr (Or.inr h.1)
theorem heIA3 {p q : Prop} : ∀ E : String, ((E = sIOB ∧ p) ∨ (E = sIAE ∧ q)) → E = sIOB ∨ E = sIAE ∨ E = sISE := fun E h => h.elim (fun h => Or.inl h.1) (fun h => Or.inr (Or.inl h.1))
theorem heIS3 {p q : Prop} : ∀ E : String, ((E = sIOB ∧ p) ∨ (E = sISE ∧ q)) → E = sIOB ∨ E = sIAE ∨ E = sISE := fun E h => h.elim (fun h => Or.inl h.1) (fun h => Or.inr (Or.inr h.1))
theorem heIAS {p q u : Prop} : ∀ E : String, ((E = sIOB ∧ p) ∨ (E = sIAE ∧ q) ∨ (E = sISE ∧ u)) → E = sIOB ∨ E = sIAE ∨ E = sISE := fun E h => h.elim (fun h => Or.inl h.1) (fun h => h.elim (fun h => Or.inr (Or.inl h.1)) (fun h => Or.inr (Or.inr h.1)))
theorem heIS {p q : Prop} : ∀ E : String, ((E = sIOB ∧ p) ∨ (E = sISE ∧ q)) → E = sIOB ∨ E = sISE := fun E h => h.elim (fun h => Or.inl h.1) (fun h => Or.inr h.1)
set_option maxRecDepth 100000 in
set_option maxHeartbeats 8000000 in
theorem c_L_areAlike (l : Launch) (D : Gt) (hfl : l.stackTraces = false) (T1 : List Nat) (ad1 : Nat → Nat) (σ : Mm) (T2 : List Nat) (ad2 : Nat → Nat) (τ : Mm) (ax : Nat) (h : Nat → Int32) {nr ng np nb : Nat} {C0 : Nat → Prop} {π : Nat → Nat} (hT1 : TG nr ng T1) (hT2 : TG nr ng T2) (hJ : J nr ng np nb C0 π σ τ) (hO : ∀ k, k < ng → h k = nI (π k)) : KW D l yL_areAlike (uws yL_areAlike cL_areAlike 8 (some .boolean)) (RM 11 3000 18000) [.ref (ad1 0), .ref (ad2 0), .int (nI nr), .int (nI ng), .ref ax] (WJ D T1 ad1 σ T2 ad2 τ ax h) (fun r S1 => r = 1 ∧ S1 = (WJ D T1 ad1 σ T2 ad2 τ ax h)) 3000 18000 := by
  refine KN_of (own := RL) (L0 := [some (.ref (ad1 0)), some (.ref (ad2 0)), some (.int (nI nr)), some (.int (nI ng)), some (.ref ax), none, none, none]) (by decide +kernel) rfl (catc rfl (catc rfl (catc rfl (catc rfl (catc rfl cat0))))) (Nat.le_of_ble_eq_true rfl) rfl ?_
  intro p e s m args below meth c A C hNC
  have hnr := hJ.2.2.2.2.2.2
  have hng := hJ.ng56
  have hnb : nb ≤ 5 := hJ.ic.2.2.2.2.2.1.2
  have lC : ∀ (z k : Nat) (x7 : Option Value), k ≤ 6 → 6 < k + z → V D A 8 (WJ D T1 ad1 σ T2 ad2 τ ax h) p l e (RM 11 3000 18000) s m args below meth c (36 * nr + 42 * ng + 12 * k) (6 * (36 * nr + 42 * ng + 12 * k)) (vx_MQ below (va_Qi (fun r S1 => r = 1 ∧ S1 = (WJ D T1 ad1 σ T2 ad2 τ ax h)) (PoB D A) A) (XCs D (WJ D T1 ad1 σ T2 ad2 τ ax h) A nX) args s 3000 18000 A) 251 [some (.ref (ad1 0)), some (.ref (ad2 0)), some (.int (nI nr)), some (.int (nI ng)), some (.ref ax), some (.int 1), some (.int (nI k)), x7] [] := by
    intro z
    induction z with
    | zero => intro k x7 h1 h2; omega
    | succ z ih =>
      intro k x7 h1 h2
      have hk1 : nI k + 1 = nI (k + 1) := nI_1 k
      refine r_iload6 (pc := 251) C dL_areAlike_251 ?_
      refine r_bipush (pc := 253) C (v := nI 6) dL_areAlike_253 (by decide) ?_
      refine r_icmp_geN (pc := 255) C (tgt := 335) dL_areAlike_255 (by decide) (by omega) (by omega) (fun c_255 => ?_) (fun c_255 => ?_)
      · refine r_iload5 (pc := 335) C dL_areAlike_335 ?_
        exact r_zret C rfl rfl dL_areAlike_337 ⟨rfl, rfl⟩ (by show _ ≤ 3000; omega) (by show _ ≤ 18000; omega)
      · refine r_iload5 (pc := 258) C dL_areAlike_258 ?_
        refine r_if_eq (pc := 260) C (tgt := 335) dL_areAlike_260 (by decide) (fun h => absurd h (by decide)) (fun _ => ?_)
        have hk : k < 6 := by omega
        refine r_aload0 (pc := 263) C dL_areAlike_263 ?_
        refine r_bipush (pc := 264) C (v := 13) dL_areAlike_264 (by decide) ?_
        refine r_iload6 (pc := 266) C dL_areAlike_266 ?_
        refine r_iconst (pc := 268) C (v := 0) dL_areAlike_268 (by decide) ?_
        refine r_callW1 (pc := 269) C hNC (c_L_does_13 l D T1 ad1 σ hT1 (nI k) 0 (c_X5_all l D hfl T1 ad1 σ hT1 hJ.ic (nI k)) heA3) ml_RL_98 st_L_does ini_L cdW_L_does hd_RL_98 rfl rfl (Nat.le_of_ble_eq_true rfl) ⟨rfl, rfl⟩ (by decide) ⟨by show _ ≤ 3000; omega, by show _ ≤ 18000; omega⟩ dL_areAlike_269 ?_
        intro r S0 hp
        obtain ⟨rfl, rfl⟩ := rd_al (y_in (n := 5) (by omega) (by decide)) hp
        refine r_aload1 (pc := 272) C dL_areAlike_272 ?_
        refine r_bipush (pc := 273) C (v := 13) dL_areAlike_273 (by decide) ?_
        refine r_iload6 (pc := 275) C dL_areAlike_275 ?_
        refine r_iconst (pc := 277) C (v := 0) dL_areAlike_277 (by decide) ?_
        refine r_callW2 (pc := 278) C hNC (c_L_does_13 l D T2 ad2 τ hT2 (nI k) 0 (c_X5_all l D hfl T2 ad2 τ hT2 hJ.ic2 (nI k)) heA3) ml_RL_98 st_L_does ini_L cdW_L_does hd_RL_98 rfl rfl (Nat.le_of_ble_eq_true rfl) ⟨rfl, rfl⟩ (by decide) ⟨by show _ ≤ 3000; omega, by show _ ≤ 18000; omega⟩ dL_areAlike_278 ?_
        intro r S0 hp
        obtain ⟨rfl, rfl⟩ := rd_al (y_in (n := 5) (by omega) (by decide)) hp
        refine r_icmp_ne (pc := 281) C (tgt := 326) dL_areAlike_281 (by decide) (fun h => absurd (hJ.al (nI k)).symm h) (fun _ => ?_)
        refine r_aload0 (pc := 284) C dL_areAlike_284 ?_
        refine r_iconst (pc := 285) C (v := 2) dL_areAlike_285 (by decide) ?_
        refine r_iload6 (pc := 286) C dL_areAlike_286 ?_
        refine r_iconst (pc := 288) C (v := 0) dL_areAlike_288 (by decide) ?_
        refine r_callW1 (pc := 289) C hNC (c_L_tells_2 l D T1 ad1 σ hT1 (nI k) 0 (c_X5_offered l D hfl T1 ad1 σ hT1 hJ.ic (nI k)) heI) ml_RL_92 st_L_tells ini_L cdW_L_tells hd_RL_92 rfl rfl (Nat.le_of_ble_eq_true rfl) ⟨rfl, rfl⟩ (by decide) ⟨by show _ ≤ 3000; omega, by show _ ≤ 18000; omega⟩ dL_areAlike_289 ?_
        intro r S0 hp
        obtain ⟨rfl, rfl⟩ := rd_of hk hp
        refine r_aload1 (pc := 292) C dL_areAlike_292 ?_
        refine r_iconst (pc := 293) C (v := 2) dL_areAlike_293 (by decide) ?_
        refine r_iload6 (pc := 294) C dL_areAlike_294 ?_
        refine r_iconst (pc := 296) C (v := 0) dL_areAlike_296 (by decide) ?_
        refine r_callW2 (pc := 297) C hNC (c_L_tells_2 l D T2 ad2 τ hT2 (nI k) 0 (c_X5_offered l D hfl T2 ad2 τ hT2 hJ.ic2 (nI k)) heI) ml_RL_92 st_L_tells ini_L cdW_L_tells hd_RL_92 rfl rfl (Nat.le_of_ble_eq_true rfl) ⟨rfl, rfl⟩ (by decide) ⟨by show _ ≤ 3000; omega, by show _ ≤ 18000; omega⟩ dL_areAlike_297 ?_
        intro r S0 hp
        obtain ⟨rfl, rfl⟩ := rd_of hk hp
        refine r_icmp_ne (pc := 300) C (tgt := 326) dL_areAlike_300 (by decide) (fun h => absurd (by rw [hJ.2.1 7 (by decide) (by decide)]) h) (fun _ => ?_)
        refine r_aload0 (pc := 303) C dL_areAlike_303 ?_
        refine r_iconst (pc := 304) C (v := 1) dL_areAlike_304 (by decide) ?_
        refine r_iload6 (pc := 305) C dL_areAlike_305 ?_
        refine r_iconst (pc := 307) C (v := 0) dL_areAlike_307 (by decide) ?_
        refine r_callW1 (pc := 308) C hNC (c_L_tells_1 l D T1 ad1 σ hT1 (nI k) 0 (c_X5_boxValue l D hfl T1 ad1 σ hT1 hJ.ic (nI k)) heI) ml_RL_92 st_L_tells ini_L cdW_L_tells hd_RL_92 rfl rfl (Nat.le_of_ble_eq_true rfl) ⟨rfl, rfl⟩ (by decide) ⟨by show _ ≤ 3000; omega, by show _ ≤ 18000; omega⟩ dL_areAlike_308 ?_
        intro r S0 hp
        obtain ⟨rfl, rfl⟩ := rd_bv hk hnb hp
        refine r_aload1 (pc := 311) C dL_areAlike_311 ?_
        refine r_iconst (pc := 312) C (v := 1) dL_areAlike_312 (by decide) ?_
        refine r_iload6 (pc := 313) C dL_areAlike_313 ?_
        refine r_iconst (pc := 315) C (v := 0) dL_areAlike_315 (by decide) ?_
        refine r_callW2 (pc := 316) C hNC (c_L_tells_1 l D T2 ad2 τ hT2 (nI k) 0 (c_X5_boxValue l D hfl T2 ad2 τ hT2 hJ.ic2 (nI k)) heI) ml_RL_92 st_L_tells ini_L cdW_L_tells hd_RL_92 rfl rfl (Nat.le_of_ble_eq_true rfl) ⟨rfl, rfl⟩ (by decide) ⟨by show _ ≤ 3000; omega, by show _ ≤ 18000; omega⟩ dL_areAlike_316 ?_
        intro r S0 hp
        obtain ⟨rfl, rfl⟩ := rd_bv hk hnb hp
        refine r_icmp_ne (pc := 319) C (tgt := 326) dL_areAlike_319 (by decide) (fun h => absurd (by rw [hJ.2.1.of, hJ.2.1.bv]) h) (fun _ => ?_)
        refine r_iconst (pc := 322) C (v := 1) dL_areAlike_322 (by decide) ?_
        refine r_goto (pc := 323) C (tgt := 327) dL_areAlike_323 (by decide) ?_
        refine r_istore5 (pc := 327) C dL_areAlike_327 ?_
        refine r_iinc6 (pc := 329) C dL_areAlike_329 hk1 ?_
        refine r_goto (pc := 332) C (tgt := 251) dL_areAlike_332 (by decide) ?_
        refine r_wid (k := 36 * nr + 42 * ng + 12 * (k + 1)) (z := 6 * (36 * nr + 42 * ng + 12 * (k + 1))) (by omega) (by omega) ?_
        exact ih (k + 1) x7 (by omega) (by omega)
  have lB : ∀ (z k : Nat) (x7 : Option Value), k ≤ ng → ng < k + z → V D A 8 (WJ D T1 ad1 σ T2 ad2 τ ax h) p l e (RM 11 3000 18000) s m args below meth c (36 * nr + 42 * k) (6 * (36 * nr + 42 * k)) (vx_MQ below (va_Qi (fun r S1 => r = 1 ∧ S1 = (WJ D T1 ad1 σ T2 ad2 τ ax h)) (PoB D A) A) (XCs D (WJ D T1 ad1 σ T2 ad2 τ ax h) A nX) args s 3000 18000 A) 127 [some (.ref (ad1 0)), some (.ref (ad2 0)), some (.int (nI nr)), some (.int (nI ng)), some (.ref ax), some (.int 1), some (.int (nI k)), x7] [] := by
    intro z
    induction z with
    | zero => intro k x7 h1 h2; omega
    | succ z ih =>
      intro k x7 h1 h2
      have hk1 : nI k + 1 = nI (k + 1) := nI_1 k
      refine r_iload6 (pc := 127) C dL_areAlike_127 ?_
      refine r_iload3 (pc := 129) C dL_areAlike_129 ?_
      refine r_icmp_geN (pc := 130) C (tgt := 248) dL_areAlike_130 (by decide) (by omega) (by omega) (fun c_130 => ?_) (fun c_130 => ?_)
      · refine r_iconst (pc := 248) C (v := nI 0) dL_areAlike_248 (by decide) ?_
        refine r_istore6 (pc := 249) C dL_areAlike_249 ?_
        refine r_wid (k := 36 * nr + 42 * ng + 12 * 0) (z := 6 * (36 * nr + 42 * ng + 12 * 0)) (by omega) (by omega) ?_
        exact lC 7 0 _ (by omega) (by omega)
      · refine r_iload5 (pc := 133) C dL_areAlike_133 ?_
        refine r_if_eq (pc := 135) C (tgt := 248) dL_areAlike_135 (by decide) (fun h => absurd h (by decide)) (fun _ => ?_)
        refine r_iconst (pc := 138) C (v := nI 0) dL_areAlike_138 (by decide) ?_
        refine r_istore7 (pc := 139) C dL_areAlike_139 ?_
        refine r_wid (k := 36 * nr + 42 * k + 4 * 0) (z := 6 * (36 * nr + 42 * k + 4 * 0)) (by omega) (by omega) ?_
        have hk : k < ng := by omega
        have hπ := hJ.2.2.2.2.1.1 k hk
        have li : ∀ (z2 j : Nat), j ≤ 9 → 9 < j + z2 → V D A 8 (WJ D T1 ad1 σ T2 ad2 τ ax h) p l e (RM 11 3000 18000) s m args below meth c (36 * nr + 42 * k + 4 * j) (6 * (36 * nr + 42 * k + 4 * j)) (vx_MQ below (va_Qi (fun r S1 => r = 1 ∧ S1 = (WJ D T1 ad1 σ T2 ad2 τ ax h)) (PoB D A) A) (XCs D (WJ D T1 ad1 σ T2 ad2 τ ax h) A nX) args s 3000 18000 A) 141 [some (.ref (ad1 0)), some (.ref (ad2 0)), some (.int (nI nr)), some (.int (nI ng)), some (.ref ax), some (.int 1), some (.int (nI k)), some (.int (nI j))] [] := by
          intro z2
          induction z2 with
          | zero => intro j g1 g2; omega
          | succ z2 ih2 =>
            intro j g1 g2
            have hj1 : nI j + 1 = nI (j + 1) := nI_1 j
            refine r_iload7 (pc := 141) C dL_areAlike_141 ?_
            refine r_bipush (pc := 143) C (v := nI 9) dL_areAlike_143 (by decide) ?_
            refine r_icmp_geN (pc := 145) C (tgt := 196) dL_areAlike_145 (by decide) (by omega) (by omega) (fun c_145 => ?_) (fun c_145 => ?_)
            · have hj9 : j = 9 := by omega
              subst hj9
              refine r_iload5 (pc := 196) C dL_areAlike_196 ?_
              refine r_if_eq (pc := 198) C (tgt := 239) dL_areAlike_198 (by decide) (fun h => absurd h (by decide)) (fun _ => ?_)
              refine r_aload0 (pc := 201) C dL_areAlike_201 ?_
              refine r_iconst (pc := 202) C (v := 4) dL_areAlike_202 (by decide) ?_
              refine r_iload6 (pc := 203) C dL_areAlike_203 ?_
              refine r_iconst (pc := 205) C (v := 2) dL_areAlike_205 (by decide) ?_
              refine r_callW1 (pc := 206) C hNC (c_L_tells_4 l D T1 ad1 σ hT1 (nI k) 2 (c_X5_polished l D hfl T1 ad1 σ hT1 hJ.ic (nI k) 2) heIA) ml_RL_92 st_L_tells ini_L cdW_L_tells hd_RL_92 rfl rfl (Nat.le_of_ble_eq_true rfl) ⟨rfl, rfl⟩ (by decide) ⟨by show _ ≤ 3000; omega, by show _ ≤ 18000; omega⟩ dL_areAlike_206 ?_
              intro r S0 hp
              obtain ⟨rfl, rfl⟩ := rd_po hk hng (by decide) hp
              refine r_aload0 (pc := 209) C dL_areAlike_209 ?_
              refine r_iconst (pc := 210) C (v := 4) dL_areAlike_210 (by decide) ?_
              refine r_iload6 (pc := 211) C dL_areAlike_211 ?_
              refine r_iconst (pc := 213) C (v := 3) dL_areAlike_213 (by decide) ?_
              refine r_callW1 (pc := 214) C hNC (c_L_tells_4 l D T1 ad1 σ hT1 (nI k) 3 (c_X5_polished l D hfl T1 ad1 σ hT1 hJ.ic (nI k) 3) heIA) ml_RL_92 st_L_tells ini_L cdW_L_tells hd_RL_92 rfl rfl (Nat.le_of_ble_eq_true rfl) ⟨rfl, rfl⟩ (by decide) ⟨by show _ ≤ 3000; omega, by show _ ≤ 18000; omega⟩ dL_areAlike_214 ?_
              intro r S0 hp
              obtain ⟨rfl, rfl⟩ := rd_po hk hng (by decide) hp
              refine r_iadd (pc := 217) C dL_areAlike_217 ?_
              refine r_aload1 (pc := 218) C dL_areAlike_218 ?_
              refine r_iconst (pc := 219) C (v := 4) dL_areAlike_219 (by decide) ?_
              refine r_aload4 (pc := 220) C dL_areAlike_220 ?_
              refine r_iload6 (pc := 222) C dL_areAlike_222 ?_
              refine r_old (pc := 224) C (h := h) (k := k) rfl (by omega) (by decide) dL_areAlike_224 ?_
              rw [hO k hk]
              refine r_iconst (pc := 225) C (v := 2) dL_areAlike_225 (by decide) ?_
              refine r_callW2 (pc := 226) C hNC (c_L_tells_4 l D T2 ad2 τ hT2 (nI (π k)) 2 (c_X5_polished l D hfl T2 ad2 τ hT2 hJ.ic2 (nI (π k)) 2) heIA) ml_RL_92 st_L_tells ini_L cdW_L_tells hd_RL_92 rfl rfl (Nat.le_of_ble_eq_true rfl) ⟨rfl, rfl⟩ (by decide) ⟨by show _ ≤ 3000; omega, by show _ ≤ 18000; omega⟩ dL_areAlike_226 ?_
              intro r S0 hp
              obtain ⟨rfl, rfl⟩ := rd_po hπ hng (by decide) hp
              refine r_iadd (pc := 229) C dL_areAlike_229 ?_
              refine r_bipush (pc := 230) C (v := 12) dL_areAlike_230 (by decide) ?_
              refine r_icmp_ne (pc := 232) C (tgt := 239) dL_areAlike_232 (by decide) (fun h => absurd (hJ.ends hk) h) (fun _ => ?_)
              refine r_iconst (pc := 235) C (v := 1) dL_areAlike_235 (by decide) ?_
              refine r_goto (pc := 236) C (tgt := 240) dL_areAlike_236 (by decide) ?_
              refine r_istore5 (pc := 240) C dL_areAlike_240 ?_
              refine r_iinc6 (pc := 242) C dL_areAlike_242 hk1 ?_
              refine r_goto (pc := 245) C (tgt := 127) dL_areAlike_245 (by decide) ?_
              refine r_wid (k := 36 * nr + 42 * (k + 1)) (z := 6 * (36 * nr + 42 * (k + 1))) (by omega) (by omega) ?_
              exact ih (k + 1) _ (by omega) (by omega)
            · refine r_iload5 (pc := 148) C dL_areAlike_148 ?_
              refine r_if_eq (pc := 150) C (tgt := 196) dL_areAlike_150 (by decide) (fun h => absurd h (by decide)) (fun _ => ?_)
              refine r_iload7 (pc := 153) C dL_areAlike_153 ?_
              refine r_iconst (pc := 155) C (v := 2) dL_areAlike_155 (by decide) ?_
              refine r_icmp_eq (pc := 156) C (tgt := 183) dL_areAlike_156 (by decide) (fun c_156 => ?_) (fun c_156 => ?_)
              · refine r_iconst (pc := 183) C (v := 1) dL_areAlike_183 (by decide) ?_
                refine r_goto (pc := 184) C (tgt := 188) dL_areAlike_184 (by decide) ?_
                refine r_istore5 (pc := 188) C dL_areAlike_188 ?_
                refine r_iinc7 (pc := 190) C dL_areAlike_190 hj1 ?_
                refine r_goto (pc := 193) C (tgt := 141) dL_areAlike_193 (by decide) ?_
                refine r_wid (k := 36 * nr + 42 * k + 4 * (j + 1)) (z := 6 * (36 * nr + 42 * k + 4 * (j + 1))) (by omega) (by omega) ?_
                exact ih2 (j + 1) (by omega) (by omega)
              · refine r_aload0 (pc := 159) C dL_areAlike_159 ?_
                refine r_iconst (pc := 160) C (v := 4) dL_areAlike_160 (by decide) ?_
                refine r_iload6 (pc := 161) C dL_areAlike_161 ?_
                refine r_iload7 (pc := 163) C dL_areAlike_163 ?_
                refine r_callW1 (pc := 165) C hNC (c_L_tells_4 l D T1 ad1 σ hT1 (nI k) (nI j) (c_X5_polished l D hfl T1 ad1 σ hT1 hJ.ic (nI k) (nI j)) heIA) ml_RL_92 st_L_tells ini_L cdW_L_tells hd_RL_92 rfl rfl (Nat.le_of_ble_eq_true rfl) ⟨rfl, rfl⟩ (by decide) ⟨by show _ ≤ 3000; omega, by show _ ≤ 18000; omega⟩ dL_areAlike_165 ?_
                intro r S0 hp
                obtain ⟨rfl, rfl⟩ := rd_po hk hng (y_in (n := 8) (by omega) (by decide)) hp
                refine r_aload1 (pc := 168) C dL_areAlike_168 ?_
                refine r_iconst (pc := 169) C (v := 4) dL_areAlike_169 (by decide) ?_
                refine r_aload4 (pc := 170) C dL_areAlike_170 ?_
                refine r_iload6 (pc := 172) C dL_areAlike_172 ?_
                refine r_old (pc := 174) C (h := h) (k := k) rfl (by omega) (by decide) dL_areAlike_174 ?_
                rw [hO k hk]
                refine r_iload7 (pc := 175) C dL_areAlike_175 ?_
                refine r_callW2 (pc := 177) C hNC (c_L_tells_4 l D T2 ad2 τ hT2 (nI (π k)) (nI j) (c_X5_polished l D hfl T2 ad2 τ hT2 hJ.ic2 (nI (π k)) (nI j)) heIA) ml_RL_92 st_L_tells ini_L cdW_L_tells hd_RL_92 rfl rfl (Nat.le_of_ble_eq_true rfl) ⟨rfl, rfl⟩ (by decide) ⟨by show _ ≤ 3000; omega, by show _ ≤ 18000; omega⟩ dL_areAlike_177 ?_
                intro r S0 hp
                obtain ⟨rfl, rfl⟩ := rd_po hπ hng (y_in (n := 8) (by omega) (by decide)) hp
                refine r_icmp_ne (pc := 180) C (tgt := 187) dL_areAlike_180 (by decide) (fun h => absurd (hJ.po hk c_156).symm h) (fun _ => ?_)
                refine r_iconst (pc := 183) C (v := 1) dL_areAlike_183 (by decide) ?_
                refine r_goto (pc := 184) C (tgt := 188) dL_areAlike_184 (by decide) ?_
                refine r_istore5 (pc := 188) C dL_areAlike_188 ?_
                refine r_iinc7 (pc := 190) C dL_areAlike_190 hj1 ?_
                refine r_goto (pc := 193) C (tgt := 141) dL_areAlike_193 (by decide) ?_
                refine r_wid (k := 36 * nr + 42 * k + 4 * (j + 1)) (z := 6 * (36 * nr + 42 * k + 4 * (j + 1))) (by omega) (by omega) ?_
                exact ih2 (j + 1) (by omega) (by omega)
        exact li 10 0 (by omega) (by omega)
  have lA : ∀ (z k : Nat) (x7 : Option Value), k ≤ nr → nr < k + z → V D A 8 (WJ D T1 ad1 σ T2 ad2 τ ax h) p l e (RM 11 3000 18000) s m args below meth c (36 * k) (6 * (36 * k)) (vx_MQ below (va_Qi (fun r S1 => r = 1 ∧ S1 = (WJ D T1 ad1 σ T2 ad2 τ ax h)) (PoB D A) A) (XCs D (WJ D T1 ad1 σ T2 ad2 τ ax h) A nX) args s 3000 18000 A) 6 [some (.ref (ad1 0)), some (.ref (ad2 0)), some (.int (nI nr)), some (.int (nI ng)), some (.ref ax), some (.int 1), some (.int (nI k)), x7] [] := by
    intro z
    induction z with
    | zero => intro k x7 h1 h2; omega
    | succ z ih =>
      intro k x7 h1 h2
      have hk1 : nI k + 1 = nI (k + 1) := nI_1 k
      refine r_iload6 (pc := 6) C dL_areAlike_6 ?_
      refine r_iload2 (pc := 8) C dL_areAlike_8 ?_
      refine r_icmp_geN (pc := 9) C (tgt := 124) dL_areAlike_9 (by decide) (by omega) (by omega) (fun c_9 => ?_) (fun c_9 => ?_)
      · refine r_iconst (pc := 124) C (v := nI 0) dL_areAlike_124 (by decide) ?_
        refine r_istore6 (pc := 125) C dL_areAlike_125 ?_
        refine r_wid (k := 36 * nr + 42 * 0) (z := 6 * (36 * nr + 42 * 0)) (by omega) (by omega) ?_
        exact lB (ng + 1) 0 _ (by omega) (by omega)
      · refine r_iload5 (pc := 12) C dL_areAlike_12 ?_
        refine r_if_eq (pc := 14) C (tgt := 124) dL_areAlike_14 (by decide) (fun h => absurd h (by decide)) (fun _ => ?_)
        refine r_iconst (pc := 17) C (v := nI 0) dL_areAlike_17 (by decide) ?_
        refine r_istore7 (pc := 18) C dL_areAlike_18 ?_
        refine r_wid (k := 36 * k + 4 * 0) (z := 6 * (36 * k + 4 * 0)) (by omega) (by omega) ?_
        have hk : k < nr := by omega
        have li : ∀ (z2 j : Nat), j ≤ 7 → 7 < j + z2 → V D A 8 (WJ D T1 ad1 σ T2 ad2 τ ax h) p l e (RM 11 3000 18000) s m args below meth c (36 * k + 4 * j) (6 * (36 * k + 4 * j)) (vx_MQ below (va_Qi (fun r S1 => r = 1 ∧ S1 = (WJ D T1 ad1 σ T2 ad2 τ ax h)) (PoB D A) A) (XCs D (WJ D T1 ad1 σ T2 ad2 τ ax h) A nX) args s 3000 18000 A) 20 [some (.ref (ad1 0)), some (.ref (ad2 0)), some (.int (nI nr)), some (.int (nI ng)), some (.ref ax), some (.int 1), some (.int (nI k)), some (.int (nI j))] [] := by
          intro z2
          induction z2 with
          | zero => intro j g1 g2; omega
          | succ z2 ih2 =>
            intro j g1 g2
            have hj1 : nI j + 1 = nI (j + 1) := nI_1 j
            refine r_iload7 (pc := 20) C dL_areAlike_20 ?_
            refine r_bipush (pc := 22) C (v := nI 7) dL_areAlike_22 (by decide) ?_
            refine r_icmp_geN (pc := 24) C (tgt := 66) dL_areAlike_24 (by decide) (by omega) (by omega) (fun c_24 => ?_) (fun c_24 => ?_)
            · have hj7 : j = 7 := by omega
              subst hj7
              refine r_iload5 (pc := 66) C dL_areAlike_66 ?_
              refine r_if_eq (pc := 68) C (tgt := 115) dL_areAlike_68 (by decide) (fun h => absurd h (by decide)) (fun _ => ?_)
              refine r_aload0 (pc := 71) C dL_areAlike_71 ?_
              refine r_iconst (pc := 72) C (v := 0) dL_areAlike_72 (by decide) ?_
              refine r_iload6 (pc := 73) C dL_areAlike_73 ?_
              refine r_iconst (pc := 75) C (v := 0) dL_areAlike_75 (by decide) ?_
              refine r_callW1 (pc := 76) C hNC (c_L_tells_0 l D T1 ad1 σ hT1 (nI k) 0 (c_X5_value l D hfl T1 ad1 σ hT1 hJ.ic (nI k)) heI) ml_RL_92 st_L_tells ini_L cdW_L_tells hd_RL_92 rfl rfl (Nat.le_of_ble_eq_true rfl) ⟨rfl, rfl⟩ (by decide) ⟨by show _ ≤ 3000; omega, by show _ ≤ 18000; omega⟩ dL_areAlike_76 ?_
              intro r S0 hp
              obtain ⟨rfl, rfl⟩ := rd_va hk hnr hp
              refine r_aload1 (pc := 79) C dL_areAlike_79 ?_
              refine r_iconst (pc := 80) C (v := 0) dL_areAlike_80 (by decide) ?_
              refine r_iload6 (pc := 81) C dL_areAlike_81 ?_
              refine r_iconst (pc := 83) C (v := 0) dL_areAlike_83 (by decide) ?_
              refine r_callW2 (pc := 84) C hNC (c_L_tells_0 l D T2 ad2 τ hT2 (nI k) 0 (c_X5_value l D hfl T2 ad2 τ hT2 hJ.ic2 (nI k)) heI) ml_RL_92 st_L_tells ini_L cdW_L_tells hd_RL_92 rfl rfl (Nat.le_of_ble_eq_true rfl) ⟨rfl, rfl⟩ (by decide) ⟨by show _ ≤ 3000; omega, by show _ ≤ 18000; omega⟩ dL_areAlike_84 ?_
              intro r S0 hp
              obtain ⟨rfl, rfl⟩ := rd_va hk hnr hp
              refine r_icmp_ne (pc := 87) C (tgt := 115) dL_areAlike_87 (by decide) (fun h => absurd (hJ.2.1.va k).symm h) (fun _ => ?_)
              refine r_aload0 (pc := 90) C dL_areAlike_90 ?_
              refine r_bipush (pc := 91) C (v := 6) dL_areAlike_91 (by decide) ?_
              refine r_iload6 (pc := 93) C dL_areAlike_93 ?_
              refine r_iconst (pc := 95) C (v := 0) dL_areAlike_95 (by decide) ?_
              refine r_callW1 (pc := 96) C hNC (c_L_does_6 l D T1 ad1 σ hT1 (nI k) 0 (c_X5_plan l D hfl T1 ad1 σ hT1 hJ.ic (nI k)) heI3) ml_RL_98 st_L_does ini_L cdW_L_does hd_RL_98 rfl rfl (Nat.le_of_ble_eq_true rfl) ⟨rfl, rfl⟩ (by decide) ⟨by show _ ≤ 3000; omega, by show _ ≤ 18000; omega⟩ dL_areAlike_96 ?_
              intro r S0 hp
              obtain ⟨rfl, rfl⟩ := rd_pl hk hnr hp
              refine r_aload1 (pc := 99) C dL_areAlike_99 ?_
              refine r_bipush (pc := 100) C (v := 6) dL_areAlike_100 (by decide) ?_
              refine r_iload6 (pc := 102) C dL_areAlike_102 ?_
              refine r_iconst (pc := 104) C (v := 0) dL_areAlike_104 (by decide) ?_
              refine r_callW2 (pc := 105) C hNC (c_L_does_6 l D T2 ad2 τ hT2 (nI k) 0 (c_X5_plan l D hfl T2 ad2 τ hT2 hJ.ic2 (nI k)) heI3) ml_RL_98 st_L_does ini_L cdW_L_does hd_RL_98 rfl rfl (Nat.le_of_ble_eq_true rfl) ⟨rfl, rfl⟩ (by decide) ⟨by show _ ≤ 3000; omega, by show _ ≤ 18000; omega⟩ dL_areAlike_105 ?_
              intro r S0 hp
              obtain ⟨rfl, rfl⟩ := rd_pl hk hnr hp
              refine r_icmp_ne (pc := 108) C (tgt := 115) dL_areAlike_108 (by decide) (fun h => absurd (congrArg nI (hJ.pl hk).symm) h) (fun _ => ?_)
              refine r_iconst (pc := 111) C (v := 1) dL_areAlike_111 (by decide) ?_
              refine r_goto (pc := 112) C (tgt := 116) dL_areAlike_112 (by decide) ?_
              refine r_istore5 (pc := 116) C dL_areAlike_116 ?_
              refine r_iinc6 (pc := 118) C dL_areAlike_118 hk1 ?_
              refine r_goto (pc := 121) C (tgt := 6) dL_areAlike_121 (by decide) ?_
              refine r_wid (k := 36 * (k + 1)) (z := 6 * (36 * (k + 1))) (by omega) (by omega) ?_
              exact ih (k + 1) _ (by omega) (by omega)
            · refine r_iload5 (pc := 27) C dL_areAlike_27 ?_
              refine r_if_eq (pc := 29) C (tgt := 66) dL_areAlike_29 (by decide) (fun h => absurd h (by decide)) (fun _ => ?_)
              refine r_aload0 (pc := 32) C dL_areAlike_32 ?_
              refine r_iconst (pc := 33) C (v := 3) dL_areAlike_33 (by decide) ?_
              refine r_iload6 (pc := 34) C dL_areAlike_34 ?_
              refine r_iload7 (pc := 36) C dL_areAlike_36 ?_
              refine r_callW1 (pc := 38) C hNC (c_L_tells_3 l D T1 ad1 σ hT1 (nI k) (nI j) (c_X5_stoneIs l D hfl T1 ad1 σ hT1 hJ.ic (nI k) (nI j)) heIA) ml_RL_92 st_L_tells ini_L cdW_L_tells hd_RL_92 rfl rfl (Nat.le_of_ble_eq_true rfl) ⟨rfl, rfl⟩ (by decide) ⟨by show _ ≤ 3000; omega, by show _ ≤ 18000; omega⟩ dL_areAlike_38 ?_
              intro r S0 hp
              obtain ⟨rfl, rfl⟩ := rd_si hk hnr (y_in (n := 6) (by omega) (by decide)) hp
              refine r_aload1 (pc := 41) C dL_areAlike_41 ?_
              refine r_iconst (pc := 42) C (v := 3) dL_areAlike_42 (by decide) ?_
              refine r_iload6 (pc := 43) C dL_areAlike_43 ?_
              refine r_iload7 (pc := 45) C dL_areAlike_45 ?_
              refine r_callW2 (pc := 47) C hNC (c_L_tells_3 l D T2 ad2 τ hT2 (nI k) (nI j) (c_X5_stoneIs l D hfl T2 ad2 τ hT2 hJ.ic2 (nI k) (nI j)) heIA) ml_RL_92 st_L_tells ini_L cdW_L_tells hd_RL_92 rfl rfl (Nat.le_of_ble_eq_true rfl) ⟨rfl, rfl⟩ (by decide) ⟨by show _ ≤ 3000; omega, by show _ ≤ 18000; omega⟩ dL_areAlike_47 ?_
              intro r S0 hp
              obtain ⟨rfl, rfl⟩ := rd_si hk hnr (y_in (n := 6) (by omega) (by decide)) hp
              refine r_icmp_ne (pc := 50) C (tgt := 57) dL_areAlike_50 (by decide) (fun h => absurd (hJ.2.1.si k (nI j)).symm h) (fun _ => ?_)
              refine r_iconst (pc := 53) C (v := 1) dL_areAlike_53 (by decide) ?_
              refine r_goto (pc := 54) C (tgt := 58) dL_areAlike_54 (by decide) ?_
              refine r_istore5 (pc := 58) C dL_areAlike_58 ?_
              refine r_iinc7 (pc := 60) C dL_areAlike_60 hj1 ?_
              refine r_goto (pc := 63) C (tgt := 20) dL_areAlike_63 (by decide) ?_
              refine r_wid (k := 36 * k + 4 * (j + 1)) (z := 6 * (36 * k + 4 * (j + 1))) (by omega) (by omega) ?_
              exact ih2 (j + 1) (by omega) (by omega)
        exact li 8 0 (by omega) (by omega)
  refine r_iconst (pc := 0) C (v := 1) dL_areAlike_0 (by decide) ?_
  refine r_istore5 (pc := 1) C dL_areAlike_1 ?_
  refine r_iconst (pc := 3) C (v := nI 0) dL_areAlike_3 (by decide) ?_
  refine r_istore6 (pc := 4) C dL_areAlike_4 ?_
  refine r_wid (k := 36 * 0) (z := 6 * (36 * 0)) (by omega) (by omega) ?_
  exact lA (nr + 1) 0 _ (by omega) (by omega)

noncomputable def gwM (τ : Mm) (i c : Nat) : Int32 := nI c * τ 65 i / 12 * 60 / 100
noncomputable def gmM (τ : Mm) (n i k c : Nat) : Mm := up (up (up (up (up (up (up (up (τ) 87 n (nI i)) 89 n (nI k)) 90 n (nI c)) 88 n (gwM τ i c)) 91 n (τ 70 i)) 92 n (-1)) 60 38 (τ 60 38 - gwM τ i c)) 60 26 (nI (n + 1))
noncomputable def cgM (σ : Mm) (g i : Nat) : Nat → Mm
  | 0 => up σ 60 38 (σ 60 38 + σ 65 i)
  | k + 1 => iF (0 < plN (σ 68 i) k) (gmM (cgM σ g i k) (g + pcN (σ 68 i) k) i k (plN (σ 68 i) k)) (cgM σ g i k)
noncomputable def endM (σ : Mm) (i : Nat) : Mm := up σ 60 23 (iF (σ 60 23 = nI i) (-1) (σ 60 23))
noncomputable def cutM (σ : Mm) (g i : Nat) : Mm := endM (up (cgM σ g i 12) 69 i 3) i
theorem gmM_r (τ : Mm) (n i k c : Nat) {r : Nat} (h1 : r ≠ 60) (h2 : r < 87 ∨ 92 < r) : gmM τ n i k c r = τ r := by
  unfold gmM
  rw [up_ne h1, up_ne h1, up_ne (by omega), up_ne (by omega), up_ne (by omega), up_ne (by omega), up_ne (by omega), up_ne (by omega)]
theorem cgM_r (σ : Mm) (g i : Nat) {r : Nat} (h1 : r ≠ 60) (h2 : r < 87 ∨ 92 < r) : ∀ k, cgM σ g i k r = σ r
  | 0 => up_ne h1
  | k + 1 => iF_row (by rw [gmM_r _ _ _ _ _ h1 h2]; exact cgM_r σ g i h1 h2 k) (cgM_r σ g i h1 h2 k)
theorem cgM_26 {g : Nat} {σ : Mm} {i : Nat} (h : σ 60 26 = nI g) : ∀ k, cgM σ g i k 60 26 = nI (g + pcN (σ 68 i) k)
  | 0 => h
  | k + 1 => by
    by_cases q : 0 < plN (σ 68 i) k
    · rw [cgM, iF_t q, pcN, iF_t q]; rfl
    · rw [cgM, iF_f q, pcN, iF_f q]; exact cgM_26 h k
theorem plN_pos {fl : Int32} {k : Nat} (hk : k ≤ 12) : nI (plN fl k) ≤ 0 ↔ ¬ 0 < plN fl k := by
  have h12 := plN_le fl k hk
  have h := nI_leI (a := plN fl k) (b := 0) (by omega) (by decide)
  exact h.trans ⟨fun q => by omega, fun q => by omega⟩
set_option maxRecDepth 100000 in
set_option maxHeartbeats 200000 in
theorem c_X6_cut (l : Launch) (D : Gt) (T : List Nat) (ad : Nat → Nat) (σ : Mm) {nr ng n2 : Nat} (hT : TG nr n2 T) {np nb : Nat} (hM : ML nr ng np nb σ) (x : Int32) : KI D l yX6_cut (uws yX6_cut cX6_cut 5 (some .int)) (RM 7 0 0) [.ref (ad 400), .int x] (T, ad, cO D ad σ) (fun r S1 => ((cd2 (0 ≤ x ∧ x < nI nr) ((σ 69 x.toNatClampNeg = 0 ∨ σ 69 x.toNatClampNeg = 2) ∧ ng + pcN (σ 68 x.toNatClampNeg) 12 ≤ 80)) = 0 → r = nI (pcN (σ 68 x.toNatClampNeg) 12) ∧ S1 = (T, ad, cO D ad (cutM (up σ 60 0 0) ng x.toNatClampNeg))) ∧ (¬ (cd2 (0 ≤ x ∧ x < nI nr) ((σ 69 x.toNatClampNeg = 0 ∨ σ 69 x.toNatClampNeg = 2) ∧ ng + pcN (σ 68 x.toNatClampNeg) 12 ≤ 80)) = 0 → r = 0 ∧ S1 = (T, ad, cO D ad (up σ 60 0 (cd2 (0 ≤ x ∧ x < nI nr) ((σ 69 x.toNatClampNeg = 0 ∨ σ 69 x.toNatClampNeg = 2) ∧ ng + pcN (σ 68 x.toNatClampNeg) 12 ≤ 80)))))) (nX) 0 0 := by
  refine KI_of (own := RX6) (L0 := [some (.ref (ad 400)), some (.int x), none, none, none]) (by decide +kernel) rfl (catc rfl (catc rfl cat0)) (Nat.le_of_ble_eq_true rfl) rfl ?_
  intro p e s m args below meth c A hnm C
  have hS := hM
  obtain ⟨hm1, hm3, hm26, hm18, hnp, hnr, hng, hnb5, hb, hsc, hlc, hpa, hro, hof, hte⟩ := hM
  obtain ⟨N, hN⟩ : ∃ N, N = pcN (σ 68 x.toNatClampNeg) 12 := ⟨_, rfl⟩
  have hN12 : N ≤ 12 := by rw [hN]; exact pcN_12 _
  rw [← hN]
  by_cases h_x : 0 ≤ x ∧ x < nI nr
  · obtain ⟨i, hi, rfl⟩ := ix_of (N := nr) (by omega) h_x
    rw [nI_clamp (by omega)] at hN ⊢
    have J : V D A 5 (T, ad, cO D ad σ) p l e (RM 7 0 0) s m args below meth c 0 0 (vx_MQ below (va_Qi (fun r S1 => ((cd2 (0 ≤ (nI i) ∧ (nI i) < nI nr) ((σ 69 i = 0 ∨ σ 69 i = 2) ∧ ng + N ≤ 80)) = 0 → r = nI (N) ∧ S1 = (T, ad, cO D ad (cutM (up σ 60 0 0) ng i))) ∧ (¬ (cd2 (0 ≤ (nI i) ∧ (nI i) < nI nr) ((σ 69 i = 0 ∨ σ 69 i = 2) ∧ ng + N ≤ 80)) = 0 → r = 0 ∧ S1 = (T, ad, cO D ad (up σ 60 0 (cd2 (0 ≤ (nI i) ∧ (nI i) < nI nr) ((σ 69 i = 0 ∨ σ 69 i = 2) ∧ ng + N ≤ 80)))))) (PoB D A) A) (XCs D (T, ad, cO D ad σ) A (nX)) args s 0 0 A) 46 [some (.ref (ad 400)), some (.int (nI i)), some (.int (bI (0 ≤ (nI i) ∧ (nI i) < nI nr))), some (.int (nI (N))), some (.int (nI 12))] [] := by
      refine r_aload0 (pc := 46) C dX6_cut_46 ?_
      refine r_iload2 (pc := 47) C dX6_cut_47 ?_
      refine r_iload2 (pc := 48) C dX6_cut_48 ?_
      refine r_if_eq_b (pc := 49) C (tgt := 86) dX6_cut_49 (by decide) (fun c_49 => ?_) (fun c_49 => ?_)
      · refine r_iconst (pc := 86) C (v := 0) dX6_cut_86 (by decide) ?_
        refine kX6_124 (pc := 87) C (ask2 l D _ _ _ hT (0 ≤ (nI i) ∧ (nI i) < nI nr) ((σ 69 i = 0 ∨ σ 69 i = 2) ∧ ng + N ≤ 80) (rfl) (fun hP0 => by first | exact absurd hP0 c_49 | (refine (bI_f ?_).symm; intro h; exact (Or.elim h.1 (fun g => c_58 g) (fun g => c_68 g))) | (refine (bI_f ?_).symm; intro h; exact absurd c_79 (Int32.not_lt.mpr ((nI_leI (a := ng + N) (b := 80) (by omega) (by decide)).mpr h.2))) | (refine (bI_t ?_).symm; refine ⟨Or.inl ?_, ?_⟩; exact c_58; exact ((nI_leI (a := ng + N) (b := 80) (by omega) (by decide)).mp (Int32.not_lt.mp c_79))) | (refine (bI_t ?_).symm; refine ⟨Or.inr ?_, ?_⟩; exact c_68; exact ((nI_leI (a := ng + N) (b := 80) (by omega) (by decide)).mp (Int32.not_lt.mp c_79))))) (hT.f (by decide)) rfl dX6_cut_87 (Nat.le_of_ble_eq_true rfl) (by decide) ?_
        rintro _ _ ⟨rfl, rfl⟩
        refine r_if_ne_b (pc := 90) C (tgt := 95) dX6_cut_90 (by decide) (fun c_90 => ?_) (fun c_90 => ?_)
        · have hok : (cd2 (0 ≤ (nI i) ∧ (nI i) < nI nr) ((σ 69 i = 0 ∨ σ 69 i = 2) ∧ ng + N ≤ 80)) = 0 := cd2_t c_90
          rw [hok]
          obtain ⟨τ, hτ⟩ : ∃ τ, up σ 60 0 0 = τ := ⟨_, rfl⟩
          rw [hτ]
          obtain ⟨hm1, hm3, hm26, hm18, hnp, hnr, hng, hnb5, hb, hsc, hlc, hpa, hro, hof, hte⟩ := (hτ ▸ ML_up 0 hS : ML nr ng np nb τ)
          obtain ⟨hP, hQ⟩ := c_90
          have hle : ∀ k, k ≤ 12 → ng + pcN (τ 68 i) k ≤ 80 := fun k hk => by
            have h9 : τ 68 i = σ 68 i := by rw [← hτ]; rfl
            have h8 := pcN_mono (σ 68 i) (a := k) 12 hk
            rw [← hN] at h8
            rw [h9]
            have h7 := hQ.2
            omega
          refine r_aload0 (pc := 95) C dX6_cut_95 ?_
          refine r_dup (pc := 96) C dX6_cut_96 rfl ?_
          refine gX6_191 (pc := 97) C hT dX6_cut_97 ?_
          refine r_aload0 (pc := 100) C dX6_cut_100 ?_
          refine gX6_16 (pc := 101) C hT dX6_cut_101 ?_
          refine r_iload1 (pc := 104) C dX6_cut_104 ?_
          refine a405 (pc := 105) C hT rfl (by omega) dX6_cut_105 ?_
          refine r_iadd (pc := 106) C dX6_cut_106 ?_
          refine pX6_191 (pc := 107) C hT dX6_cut_107 ?_
          refine r_iconst (pc := 110) C (v := 0) dX6_cut_110 (by decide) ?_
          refine r_istore4 (pc := 111) C dX6_cut_111 ?_
          have loop2 : ∀ (z k : Nat), k ≤ 12 → 12 < k + z → V D A 5 (T, ad, cO D ad ((cgM τ ng i k))) p l e (RM 7 0 0) s m args below meth c 0 0 (vx_MQ below (va_Qi (fun r S1 => ((0 : Int32) = 0 → r = nI (N) ∧ S1 = (T, ad, cO D ad (cutM τ ng i))) ∧ (¬ (0 : Int32) = 0 → r = 0 ∧ S1 = (T, ad, cO D ad (τ)))) (PoB D A) A) (XCs D (T, ad, cO D ad σ) A (nX)) args s 0 0 A) 113 [some (.ref (ad 400)), some (.int (nI i)), some (.int (bI (0 ≤ nI i ∧ nI i < nI nr))), some (.int (nI N)), some (.int (nI k))] [] := by
            intro z
            induction z with
            | zero => intro k h1 h2; omega
            | succ z ih =>
              intro k h1 h2
              have hk : nI k + 1 = nI (k + 1) := nI_1 k
              refine r_iload4 (pc := 113) C dX6_cut_113 ?_
              refine r_bipush (pc := 115) C (v := nI 12) dX6_cut_115 (by decide) ?_
              refine r_icmp_geN (pc := 117) C (tgt := 258) dX6_cut_117 (by decide) (by omega) (by omega) (fun c_117 => ?_) (fun c_117 => ?_)
              · have hk12 : k = 12 := by omega
                rw [hk12]
                refine r_aload0 (pc := 258) C dX6_cut_258 ?_
                refine gX6_28 (pc := 259) C hT dX6_cut_259 ?_
                refine r_iload1 (pc := 262) C dX6_cut_262 ?_
                refine r_iconst (pc := 263) C (v := 3) dX6_cut_263 (by decide) ?_
                refine b409 (pc := 264) C hT rfl (by omega) dX6_cut_264 ?_
                refine r_aload0 (pc := 265) C dX6_cut_265 ?_
                refine r_iload1 (pc := 266) C dX6_cut_266 ?_
                refine kX6_164 (pc := 267) C (c_X6_ends l D _ _ _ hT _) (hT.f (by decide)) rfl dX6_cut_267 (Nat.le_of_ble_eq_true rfl) (by decide) ?_
                rintro _ rfl
                refine r_iload3 (pc := 270) C dX6_cut_270 ?_
                exact r_iret C rfl dX6_cut_271 (⟨fun _ => ⟨rfl, rfl⟩, fun q => absurd rfl q⟩) (by decide) (by decide)
              · have h68 : (cgM τ ng i k) 68 i = τ 68 i := by rw [cgM_r τ ng i (by decide) (by decide) k]
                have h26 := cgM_26 (g := ng) (σ := τ) (i := i) hm26 k
                obtain ⟨ρ, hρ⟩ : ∃ y, y = (cgM τ ng i k) := ⟨_, rfl⟩
                rw [← hρ] at h68 h26 ⊢
                refine r_aload0 (pc := 120) C dX6_cut_120 ?_
                refine r_iload1 (pc := 121) C dX6_cut_121 ?_
                refine r_iload4 (pc := 122) C dX6_cut_122 ?_
                refine kX6_185 (pc := 124) C (c_X6_rowAt l D _ _ _ hT (by omega) (by omega)) (hT.f (by decide)) rfl dX6_cut_124 (Nat.le_of_ble_eq_true rfl) (by decide) ?_
                rintro r124 _ ⟨hr9, rfl⟩
                have hr8 : r124 = nI (plN (τ 68 i) k) := hr9.trans (congrArg (fun z => nI (plN z k)) h68)
                subst hr8
                refine r_if_le (pc := 127) C (tgt := 252) dX6_cut_127 (by decide) (fun c_127 => ?_) (fun c_127 => ?_)
                · have hp0 : ¬ 0 < plN (τ 68 i) k := (plN_pos (by omega)).mp c_127
                  rw [hρ, show cgM τ ng i k = cgM τ ng i (k + 1) from (iF_f hp0).symm]
                  refine r_iinc4 (pc := 252) C dX6_cut_252 hk ?_
                  refine r_goto (pc := 255) C (tgt := 113) dX6_cut_255 (by decide) ?_
                  exact ih (k + 1) (by omega) (by omega)
                · have hpos : 0 < plN (τ 68 i) k := Classical.not_not.mp (fun z => c_127 ((plN_pos (by omega)).mpr z))
                  obtain ⟨n, hn⟩ : ∃ y, y = ng + pcN (τ 68 i) k := ⟨_, rfl⟩
                  have hpc1 : pcN (τ 68 i) (k + 1) = pcN (τ 68 i) k + 1 := iF_t hpos
                  have hpm := hle (k + 1) (by omega)
                  have hn80 : n < 80 := by omega
                  rw [← hn] at h26
                  refine r_aload0 (pc := 130) C dX6_cut_130 ?_
                  refine gX6_75 (pc := 131) C hT dX6_cut_131 ?_
                  refine r_aload0 (pc := 134) C dX6_cut_134 ?_
                  refine gX6_118 (pc := 135) C hT dX6_cut_135 ?_
                  refine r_iload1 (pc := 138) C dX6_cut_138 ?_
                  refine b427 (pc := 139) C hT h26 (by omega) dX6_cut_139 ?_
                  refine r_aload0 (pc := 140) C dX6_cut_140 ?_
                  refine gX6_81 (pc := 141) C hT dX6_cut_141 ?_
                  refine r_aload0 (pc := 144) C dX6_cut_144 ?_
                  refine gX6_118 (pc := 145) C hT dX6_cut_145 ?_
                  refine r_iload4 (pc := 148) C dX6_cut_148 ?_
                  refine b429 (pc := 150) C hT h26 (by omega) dX6_cut_150 ?_
                  refine r_aload0 (pc := 151) C dX6_cut_151 ?_
                  refine gX6_84 (pc := 152) C hT dX6_cut_152 ?_
                  refine r_aload0 (pc := 155) C dX6_cut_155 ?_
                  refine gX6_118 (pc := 156) C hT dX6_cut_156 ?_
                  refine r_aload0 (pc := 159) C dX6_cut_159 ?_
                  refine r_iload1 (pc := 160) C dX6_cut_160 ?_
                  refine r_iload4 (pc := 161) C dX6_cut_161 ?_
                  refine kX6_185 (pc := 163) C (c_X6_rowAt l D _ _ _ hT (by omega) (by omega)) (hT.f (by decide)) rfl dX6_cut_163 (Nat.le_of_ble_eq_true rfl) (by decide) ?_
                  rintro r163 _ ⟨hr9, rfl⟩
                  have hr8 : r163 = nI (plN (τ 68 i) k) := hr9.trans (congrArg (fun z => nI (plN z k)) h68)
                  subst hr8
                  refine b430 (pc := 166) C hT h26 (by omega) dX6_cut_166 ?_
                  refine r_aload0 (pc := 167) C dX6_cut_167 ?_
                  refine gX6_78 (pc := 168) C hT dX6_cut_168 ?_
                  refine r_aload0 (pc := 171) C dX6_cut_171 ?_
                  refine gX6_118 (pc := 172) C hT dX6_cut_172 ?_
                  refine r_aload0 (pc := 175) C dX6_cut_175 ?_
                  refine r_iload1 (pc := 176) C dX6_cut_176 ?_
                  refine r_iload4 (pc := 177) C dX6_cut_177 ?_
                  refine kX6_185 (pc := 179) C (c_X6_rowAt l D _ _ _ hT (by omega) (by omega)) (hT.f (by decide)) rfl dX6_cut_179 (Nat.le_of_ble_eq_true rfl) (by decide) ?_
                  rintro r179 _ ⟨hr9, rfl⟩
                  have hr8 : r179 = nI (plN (τ 68 i) k) := hr9.trans (congrArg (fun z => nI (plN z k)) h68)
                  subst hr8
                  refine r_aload0 (pc := 182) C dX6_cut_182 ?_
                  refine gX6_16 (pc := 183) C hT dX6_cut_183 ?_
                  refine r_iload1 (pc := 186) C dX6_cut_186 ?_
                  refine a405 (pc := 187) C hT rfl (by omega) dX6_cut_187 ?_
                  refine r_imul (pc := 188) C dX6_cut_188 ?_
                  refine r_bipush (pc := 189) C (v := 12) dX6_cut_189 (by decide) ?_
                  refine r_idiv (pc := 191) C dX6_cut_191 (by decide) ?_
                  refine r_bipush (pc := 192) C (v := 60) dX6_cut_192 (by decide) ?_
                  refine r_imul (pc := 194) C dX6_cut_194 ?_
                  refine r_bipush (pc := 195) C (v := 100) dX6_cut_195 (by decide) ?_
                  refine r_idiv (pc := 197) C dX6_cut_197 (by decide) ?_
                  refine V_st (st2 := [.int (gwM ρ i (plN (τ 68 i) k)), .int ((up (up (up (ρ) 87 n (nI i)) 89 n (nI k)) 90 n (nI (plN (τ 68 i) k))) 60 26), .ref (ad 428)]) rfl ?_
                  refine b428 (pc := 198) C hT h26 (by omega) dX6_cut_198 ?_
                  refine r_aload0 (pc := 199) C dX6_cut_199 ?_
                  refine gX6_87 (pc := 200) C hT dX6_cut_200 ?_
                  refine r_aload0 (pc := 203) C dX6_cut_203 ?_
                  refine gX6_118 (pc := 204) C hT dX6_cut_204 ?_
                  refine r_aload0 (pc := 207) C dX6_cut_207 ?_
                  refine gX6_31 (pc := 208) C hT dX6_cut_208 ?_
                  refine r_iload1 (pc := 211) C dX6_cut_211 ?_
                  refine a410 (pc := 212) C hT rfl (by omega) dX6_cut_212 ?_
                  refine V_st (st2 := [.int (ρ 70 i), .int ((up (up (up (up (ρ) 87 n (nI i)) 89 n (nI k)) 90 n (nI (plN (τ 68 i) k))) 88 n (gwM ρ i (plN (τ 68 i) k))) 60 26), .ref (ad 431)]) rfl ?_
                  refine b431 (pc := 213) C hT h26 (by omega) dX6_cut_213 ?_
                  refine r_aload0 (pc := 214) C dX6_cut_214 ?_
                  refine gX6_90 (pc := 215) C hT dX6_cut_215 ?_
                  refine r_aload0 (pc := 218) C dX6_cut_218 ?_
                  refine gX6_118 (pc := 219) C hT dX6_cut_219 ?_
                  refine r_iconst (pc := 222) C (v := (-1)) dX6_cut_222 (by decide) ?_
                  refine b432 (pc := 223) C hT h26 (by omega) dX6_cut_223 ?_
                  refine r_aload0 (pc := 224) C dX6_cut_224 ?_
                  refine r_dup (pc := 225) C dX6_cut_225 rfl ?_
                  refine gX6_191 (pc := 226) C hT dX6_cut_226 ?_
                  refine r_aload0 (pc := 229) C dX6_cut_229 ?_
                  refine gX6_78 (pc := 230) C hT dX6_cut_230 ?_
                  refine r_aload0 (pc := 233) C dX6_cut_233 ?_
                  refine gX6_118 (pc := 234) C hT dX6_cut_234 ?_
                  refine a428 (pc := 237) C hT h26 (by omega) dX6_cut_237 ?_
                  rw [show (up (up (up (up (up (up (ρ) 87 n (nI i)) 89 n (nI k)) 90 n (nI (plN (τ 68 i) k))) 88 n (gwM ρ i (plN (τ 68 i) k))) 91 n (ρ 70 i)) 92 n (-1)) 88 n = gwM ρ i (plN (τ 68 i) k) by rw [up_ne (by decide), up_ne (by decide), up_self]]
                  refine r_isub (pc := 238) C dX6_cut_238 ?_
                  refine V_st (st2 := [.int (ρ 60 38 - gwM ρ i (plN (τ 68 i) k)), .ref (ad 400)]) rfl ?_
                  refine pX6_191 (pc := 239) C hT dX6_cut_239 ?_
                  refine r_aload0 (pc := 242) C dX6_cut_242 ?_
                  refine r_dup (pc := 243) C dX6_cut_243 rfl ?_
                  refine gX6_118 (pc := 244) C hT dX6_cut_244 ?_
                  refine r_iconst (pc := 247) C (v := 1) dX6_cut_247 (by decide) ?_
                  refine r_iadd (pc := 248) C dX6_cut_248 ?_
                  rw [show (up (up (up (up (up (up (up (ρ) 87 n (nI i)) 89 n (nI k)) 90 n (nI (plN (τ 68 i) k))) 88 n (gwM ρ i (plN (τ 68 i) k))) 91 n (ρ 70 i)) 92 n (-1)) 60 38 (ρ 60 38 - gwM ρ i (plN (τ 68 i) k))) 60 26 + 1 = nI (n + 1) by rw [show (up (up (up (up (up (up (up (ρ) 87 n (nI i)) 89 n (nI k)) 90 n (nI (plN (τ 68 i) k))) 88 n (gwM ρ i (plN (τ 68 i) k))) 91 n (ρ 70 i)) 92 n (-1)) 60 38 (ρ 60 38 - gwM ρ i (plN (τ 68 i) k))) 60 26 = ρ 60 26 from rfl, h26]; exact nI_1 n]
                  refine pX6_118 (pc := 249) C hT dX6_cut_249 ?_
                  refine V_c (S2 := (T, ad, cO D ad (cgM τ ng i (k + 1)))) (congrArg (fun z => (T, ad, cO D ad z)) ?_) rfl ?_
                  · rw [cgM, iF_t hpos, ← hρ, ← hn]; rfl
                  refine r_iinc4 (pc := 252) C dX6_cut_252 hk ?_
                  refine r_goto (pc := 255) C (tgt := 113) dX6_cut_255 (by decide) ?_
                  exact ih (k + 1) (by omega) (by omega)
          exact loop2 13 0 (by omega) (by omega)
        · have hno : ¬ (cd2 (0 ≤ (nI i) ∧ (nI i) < nI nr) ((σ 69 i = 0 ∨ σ 69 i = 2) ∧ ng + N ≤ 80)) = 0 := cd2_f (by assumption)
          refine r_iconst (pc := 93) C (v := 0) dX6_cut_93 (by decide) ?_
          exact r_iret C rfl dX6_cut_94 (by first | exact ⟨fun q => absurd q hno, fun _ => ⟨rfl, rfl⟩⟩ | exact ⟨fun _ => ⟨rfl, rfl⟩, fun q => absurd rfl q⟩) (by decide) (by decide)
      · refine r_aload0 (pc := 52) C dX6_cut_52 ?_
        refine gX6_28 (pc := 53) C hT dX6_cut_53 ?_
        refine r_iload1 (pc := 56) C dX6_cut_56 ?_
        refine a409 (pc := 57) C hT rfl (by omega) dX6_cut_57 ?_
        refine r_if_eq (pc := 58) C (tgt := 71) dX6_cut_58 (by decide) (fun c_58 => ?_) (fun c_58 => ?_)
        · refine r_aload0 (pc := 71) C dX6_cut_71 ?_
          refine gX6_118 (pc := 72) C hT dX6_cut_72 ?_
          rw [hm26]
          refine r_iload3 (pc := 75) C dX6_cut_75 ?_
          refine r_iadd (pc := 76) C dX6_cut_76 ?_
          rw [show nI ng + nI N = nI (ng + N) from nI_add _ _]
          refine r_bipush (pc := 77) C (v := 80) dX6_cut_77 (by decide) ?_
          refine r_icmp_gt (pc := 79) C (tgt := 86) dX6_cut_79 (by decide) (fun c_79 => ?_) (fun c_79 => ?_)
          · refine r_iconst (pc := 86) C (v := 0) dX6_cut_86 (by decide) ?_
            refine kX6_124 (pc := 87) C (ask2 l D _ _ _ hT (0 ≤ (nI i) ∧ (nI i) < nI nr) ((σ 69 i = 0 ∨ σ 69 i = 2) ∧ ng + N ≤ 80) (rfl) (fun hP0 => by first | exact absurd hP0 c_49 | (refine (bI_f ?_).symm; intro h; exact (Or.elim h.1 (fun g => c_58 g) (fun g => c_68 g))) | (refine (bI_f ?_).symm; intro h; exact absurd c_79 (Int32.not_lt.mpr ((nI_leI (a := ng + N) (b := 80) (by omega) (by decide)).mpr h.2))) | (refine (bI_t ?_).symm; refine ⟨Or.inl ?_, ?_⟩; exact c_58; exact ((nI_leI (a := ng + N) (b := 80) (by omega) (by decide)).mp (Int32.not_lt.mp c_79))) | (refine (bI_t ?_).symm; refine ⟨Or.inr ?_, ?_⟩; exact c_68; exact ((nI_leI (a := ng + N) (b := 80) (by omega) (by decide)).mp (Int32.not_lt.mp c_79))))) (hT.f (by decide)) rfl dX6_cut_87 (Nat.le_of_ble_eq_true rfl) (by decide) ?_
            rintro _ _ ⟨rfl, rfl⟩
            refine r_if_ne_b (pc := 90) C (tgt := 95) dX6_cut_90 (by decide) (fun c_90 => ?_) (fun c_90 => ?_)
            · have hok : (cd2 (0 ≤ (nI i) ∧ (nI i) < nI nr) ((σ 69 i = 0 ∨ σ 69 i = 2) ∧ ng + N ≤ 80)) = 0 := cd2_t c_90
              rw [hok]
              obtain ⟨τ, hτ⟩ : ∃ τ, up σ 60 0 0 = τ := ⟨_, rfl⟩
              rw [hτ]
              obtain ⟨hm1, hm3, hm26, hm18, hnp, hnr, hng, hnb5, hb, hsc, hlc, hpa, hro, hof, hte⟩ := (hτ ▸ ML_up 0 hS : ML nr ng np nb τ)
              obtain ⟨hP, hQ⟩ := c_90
              have hle : ∀ k, k ≤ 12 → ng + pcN (τ 68 i) k ≤ 80 := fun k hk => by
                have h9 : τ 68 i = σ 68 i := by rw [← hτ]; rfl
                have h8 := pcN_mono (σ 68 i) (a := k) 12 hk
                rw [← hN] at h8
                rw [h9]
                have h7 := hQ.2
                omega
              refine r_aload0 (pc := 95) C dX6_cut_95 ?_
              refine r_dup (pc := 96) C dX6_cut_96 rfl ?_
              refine gX6_191 (pc := 97) C hT dX6_cut_97 ?_
              refine r_aload0 (pc := 100) C dX6_cut_100 ?_
              refine gX6_16 (pc := 101) C hT dX6_cut_101 ?_
              refine r_iload1 (pc := 104) C dX6_cut_104 ?_
              refine a405 (pc := 105) C hT rfl (by omega) dX6_cut_105 ?_
              refine r_iadd (pc := 106) C dX6_cut_106 ?_
              refine pX6_191 (pc := 107) C hT dX6_cut_107 ?_
              refine r_iconst (pc := 110) C (v := 0) dX6_cut_110 (by decide) ?_
              refine r_istore4 (pc := 111) C dX6_cut_111 ?_
              have loop2 : ∀ (z k : Nat), k ≤ 12 → 12 < k + z → V D A 5 (T, ad, cO D ad ((cgM τ ng i k))) p l e (RM 7 0 0) s m args below meth c 0 0 (vx_MQ below (va_Qi (fun r S1 => ((0 : Int32) = 0 → r = nI (N) ∧ S1 = (T, ad, cO D ad (cutM τ ng i))) ∧ (¬ (0 : Int32) = 0 → r = 0 ∧ S1 = (T, ad, cO D ad (τ)))) (PoB D A) A) (XCs D (T, ad, cO D ad σ) A (nX)) args s 0 0 A) 113 [some (.ref (ad 400)), some (.int (nI i)), some (.int (bI (0 ≤ nI i ∧ nI i < nI nr))), some (.int (nI N)), some (.int (nI k))] [] := by
                intro z
                induction z with
                | zero => intro k h1 h2; omega
                | succ z ih =>
                  intro k h1 h2
                  have hk : nI k + 1 = nI (k + 1) := nI_1 k
                  refine r_iload4 (pc := 113) C dX6_cut_113 ?_
                  refine r_bipush (pc := 115) C (v := nI 12) dX6_cut_115 (by decide) ?_
                  refine r_icmp_geN (pc := 117) C (tgt := 258) dX6_cut_117 (by decide) (by omega) (by omega) (fun c_117 => ?_) (fun c_117 => ?_)
                  · have hk12 : k = 12 := by omega
                    rw [hk12]
                    refine r_aload0 (pc := 258) C dX6_cut_258 ?_
                    refine gX6_28 (pc := 259) C hT dX6_cut_259 ?_
                    refine r_iload1 (pc := 262) C dX6_cut_262 ?_
                    refine r_iconst (pc := 263) C (v := 3) dX6_cut_263 (by decide) ?_
                    refine b409 (pc := 264) C hT rfl (by omega) dX6_cut_264 ?_
                    refine r_aload0 (pc := 265) C dX6_cut_265 ?_
                    refine r_iload1 (pc := 266) C dX6_cut_266 ?_
                    refine kX6_164 (pc := 267) C (c_X6_ends l D _ _ _ hT _) (hT.f (by decide)) rfl dX6_cut_267 (Nat.le_of_ble_eq_true rfl) (by decide) ?_
                    rintro _ rfl
                    refine r_iload3 (pc := 270) C dX6_cut_270 ?_
                    exact r_iret C rfl dX6_cut_271 (⟨fun _ => ⟨rfl, rfl⟩, fun q => absurd rfl q⟩) (by decide) (by decide)
                  · have h68 : (cgM τ ng i k) 68 i = τ 68 i := by rw [cgM_r τ ng i (by decide) (by decide) k]
                    have h26 := cgM_26 (g := ng) (σ := τ) (i := i) hm26 k
                    obtain ⟨ρ, hρ⟩ : ∃ y, y = (cgM τ ng i k) := ⟨_, rfl⟩
                    rw [← hρ] at h68 h26 ⊢
                    refine r_aload0 (pc := 120) C dX6_cut_120 ?_
                    refine r_iload1 (pc := 121) C dX6_cut_121 ?_
                    refine r_iload4 (pc := 122) C dX6_cut_122 ?_
                    refine kX6_185 (pc := 124) C (c_X6_rowAt l D _ _ _ hT (by omega) (by omega)) (hT.f (by decide)) rfl dX6_cut_124 (Nat.le_of_ble_eq_true rfl) (by decide) ?_
                    rintro r124 _ ⟨hr9, rfl⟩
                    have hr8 : r124 = nI (plN (τ 68 i) k) := hr9.trans (congrArg (fun z => nI (plN z k)) h68)
                    subst hr8
                    refine r_if_le (pc := 127) C (tgt := 252) dX6_cut_127 (by decide) (fun c_127 => ?_) (fun c_127 => ?_)
                    · have hp0 : ¬ 0 < plN (τ 68 i) k := (plN_pos (by omega)).mp c_127
                      rw [hρ, show cgM τ ng i k = cgM τ ng i (k + 1) from (iF_f hp0).symm]
                      refine r_iinc4 (pc := 252) C dX6_cut_252 hk ?_
                      refine r_goto (pc := 255) C (tgt := 113) dX6_cut_255 (by decide) ?_
                      exact ih (k + 1) (by omega) (by omega)
                    · have hpos : 0 < plN (τ 68 i) k := Classical.not_not.mp (fun z => c_127 ((plN_pos (by omega)).mpr z))
                      obtain ⟨n, hn⟩ : ∃ y, y = ng + pcN (τ 68 i) k := ⟨_, rfl⟩
                      have hpc1 : pcN (τ 68 i) (k + 1) = pcN (τ 68 i) k + 1 := iF_t hpos
                      have hpm := hle (k + 1) (by omega)
                      have hn80 : n < 80 := by omega
                      rw [← hn] at h26
                      refine r_aload0 (pc := 130) C dX6_cut_130 ?_
                      refine gX6_75 (pc := 131) C hT dX6_cut_131 ?_
                      refine r_aload0 (pc := 134) C dX6_cut_134 ?_
                      refine gX6_118 (pc := 135) C hT dX6_cut_135 ?_
                      refine r_iload1 (pc := 138) C dX6_cut_138 ?_
                      refine b427 (pc := 139) C hT h26 (by omega) dX6_cut_139 ?_
                      refine r_aload0 (pc := 140) C dX6_cut_140 ?_
                      refine gX6_81 (pc := 141) C hT dX6_cut_141 ?_
                      refine r_aload0 (pc := 144) C dX6_cut_144 ?_
                      refine gX6_118 (pc := 145) C hT dX6_cut_145 ?_
                      refine r_iload4 (pc := 148) C dX6_cut_148 ?_
                      refine b429 (pc := 150) C hT h26 (by omega) dX6_cut_150 ?_
                      refine r_aload0 (pc := 151) C dX6_cut_151 ?_
                      refine gX6_84 (pc := 152) C hT dX6_cut_152 ?_
                      refine r_aload0 (pc := 155) C dX6_cut_155 ?_
                      refine gX6_118 (pc := 156) C hT dX6_cut_156 ?_
                      refine r_aload0 (pc := 159) C dX6_cut_159 ?_
                      refine r_iload1 (pc := 160) C dX6_cut_160 ?_
                      refine r_iload4 (pc := 161) C dX6_cut_161 ?_
                      refine kX6_185 (pc := 163) C (c_X6_rowAt l D _ _ _ hT (by omega) (by omega)) (hT.f (by decide)) rfl dX6_cut_163 (Nat.le_of_ble_eq_true rfl) (by decide) ?_
                      rintro r163 _ ⟨hr9, rfl⟩
                      have hr8 : r163 = nI (plN (τ 68 i) k) := hr9.trans (congrArg (fun z => nI (plN z k)) h68)
                      subst hr8
                      refine b430 (pc := 166) C hT h26 (by omega) dX6_cut_166 ?_
                      refine r_aload0 (pc := 167) C dX6_cut_167 ?_
                      refine gX6_78 (pc := 168) C hT dX6_cut_168 ?_
                      refine r_aload0 (pc := 171) C dX6_cut_171 ?_
                      refine gX6_118 (pc := 172) C hT dX6_cut_172 ?_
                      refine r_aload0 (pc := 175) C dX6_cut_175 ?_
                      refine r_iload1 (pc := 176) C dX6_cut_176 ?_
                      refine r_iload4 (pc := 177) C dX6_cut_177 ?_
                      refine kX6_185 (pc := 179) C (c_X6_rowAt l D _ _ _ hT (by omega) (by omega)) (hT.f (by decide)) rfl dX6_cut_179 (Nat.le_of_ble_eq_true rfl) (by decide) ?_
                      rintro r179 _ ⟨hr9, rfl⟩
                      have hr8 : r179 = nI (plN (τ 68 i) k) := hr9.trans (congrArg (fun z => nI (plN z k)) h68)
                      subst hr8
                      refine r_aload0 (pc := 182) C dX6_cut_182 ?_
                      refine gX6_16 (pc := 183) C hT dX6_cut_183 ?_
                      refine r_iload1 (pc := 186) C dX6_cut_186 ?_
                      refine a405 (pc := 187) C hT rfl (by omega) dX6_cut_187 ?_
                      refine r_imul (pc := 188) C dX6_cut_188 ?_
                      refine r_bipush (pc := 189) C (v := 12) dX6_cut_189 (by decide) ?_
                      refine r_idiv (pc := 191) C dX6_cut_191 (by decide) ?_
                      refine r_bipush (pc := 192) C (v := 60) dX6_cut_192 (by decide) ?_
                      refine r_imul (pc := 194) C dX6_cut_194 ?_
                      refine r_bipush (pc := 195) C (v := 100) dX6_cut_195 (by decide) ?_
                      refine r_idiv (pc := 197) C dX6_cut_197 (by decide) ?_
                      refine V_st (st2 := [.int (gwM ρ i (plN (τ 68 i) k)), .int ((up (up (up (ρ) 87 n (nI i)) 89 n (nI k)) 90 n (nI (plN (τ 68 i) k))) 60 26), .ref (ad 428)]) rfl ?_
                      refine b428 (pc := 198) C hT h26 (by omega) dX6_cut_198 ?_
                      refine r_aload0 (pc := 199) C dX6_cut_199 ?_
                      refine gX6_87 (pc := 200) C hT dX6_cut_200 ?_
                      refine r_aload0 (pc := 203) C dX6_cut_203 ?_
                      refine gX6_118 (pc := 204) C hT dX6_cut_204 ?_
                      refine r_aload0 (pc := 207) C dX6_cut_207 ?_
                      refine gX6_31 (pc := 208) C hT dX6_cut_208 ?_
                      refine r_iload1 (pc := 211) C dX6_cut_211 ?_
                      refine a410 (pc := 212) C hT rfl (by omega) dX6_cut_212 ?_
                      refine V_st (st2 := [.int (ρ 70 i), .int ((up (up (up (up (ρ) 87 n (nI i)) 89 n (nI k)) 90 n (nI (plN (τ 68 i) k))) 88 n (gwM ρ i (plN (τ 68 i) k))) 60 26), .ref (ad 431)]) rfl ?_
                      refine b431 (pc := 213) C hT h26 (by omega) dX6_cut_213 ?_
                      refine r_aload0 (pc := 214) C dX6_cut_214 ?_
                      refine gX6_90 (pc := 215) C hT dX6_cut_215 ?_
                      refine r_aload0 (pc := 218) C dX6_cut_218 ?_
                      refine gX6_118 (pc := 219) C hT dX6_cut_219 ?_
                      refine r_iconst (pc := 222) C (v := (-1)) dX6_cut_222 (by decide) ?_
                      refine b432 (pc := 223) C hT h26 (by omega) dX6_cut_223 ?_
                      refine r_aload0 (pc := 224) C dX6_cut_224 ?_
                      refine r_dup (pc := 225) C dX6_cut_225 rfl ?_
                      refine gX6_191 (pc := 226) C hT dX6_cut_226 ?_
                      refine r_aload0 (pc := 229) C dX6_cut_229 ?_
                      refine gX6_78 (pc := 230) C hT dX6_cut_230 ?_
                      refine r_aload0 (pc := 233) C dX6_cut_233 ?_
                      refine gX6_118 (pc := 234) C hT dX6_cut_234 ?_
                      refine a428 (pc := 237) C hT h26 (by omega) dX6_cut_237 ?_
                      rw [show (up (up (up (up (up (up (ρ) 87 n (nI i)) 89 n (nI k)) 90 n (nI (plN (τ 68 i) k))) 88 n (gwM ρ i (plN (τ 68 i) k))) 91 n (ρ 70 i)) 92 n (-1)) 88 n = gwM ρ i (plN (τ 68 i) k) by rw [up_ne (by decide), up_ne (by decide), up_self]]
                      refine r_isub (pc := 238) C dX6_cut_238 ?_
                      refine V_st (st2 := [.int (ρ 60 38 - gwM ρ i (plN (τ 68 i) k)), .ref (ad 400)]) rfl ?_
                      refine pX6_191 (pc := 239) C hT dX6_cut_239 ?_
                      refine r_aload0 (pc := 242) C dX6_cut_242 ?_
                      refine r_dup (pc := 243) C dX6_cut_243 rfl ?_
                      refine gX6_118 (pc := 244) C hT dX6_cut_244 ?_
                      refine r_iconst (pc := 247) C (v := 1) dX6_cut_247 (by decide) ?_
                      refine r_iadd (pc := 248) C dX6_cut_248 ?_
                      rw [show (up (up (up (up (up (up (up (ρ) 87 n (nI i)) 89 n (nI k)) 90 n (nI (plN (τ 68 i) k))) 88 n (gwM ρ i (plN (τ 68 i) k))) 91 n (ρ 70 i)) 92 n (-1)) 60 38 (ρ 60 38 - gwM ρ i (plN (τ 68 i) k))) 60 26 + 1 = nI (n + 1) by rw [show (up (up (up (up (up (up (up (ρ) 87 n (nI i)) 89 n (nI k)) 90 n (nI (plN (τ 68 i) k))) 88 n (gwM ρ i (plN (τ 68 i) k))) 91 n (ρ 70 i)) 92 n (-1)) 60 38 (ρ 60 38 - gwM ρ i (plN (τ 68 i) k))) 60 26 = ρ 60 26 from rfl, h26]; exact nI_1 n]
                      refine pX6_118 (pc := 249) C hT dX6_cut_249 ?_
                      refine V_c (S2 := (T, ad, cO D ad (cgM τ ng i (k + 1)))) (congrArg (fun z => (T, ad, cO D ad z)) ?_) rfl ?_
                      · rw [cgM, iF_t hpos, ← hρ, ← hn]; rfl
                      refine r_iinc4 (pc := 252) C dX6_cut_252 hk ?_
                      refine r_goto (pc := 255) C (tgt := 113) dX6_cut_255 (by decide) ?_
                      exact ih (k + 1) (by omega) (by omega)
              exact loop2 13 0 (by omega) (by omega)
            · have hno : ¬ (cd2 (0 ≤ (nI i) ∧ (nI i) < nI nr) ((σ 69 i = 0 ∨ σ 69 i = 2) ∧ ng + N ≤ 80)) = 0 := cd2_f (by assumption)
              refine r_iconst (pc := 93) C (v := 0) dX6_cut_93 (by decide) ?_
              exact r_iret C rfl dX6_cut_94 (by first | exact ⟨fun q => absurd q hno, fun _ => ⟨rfl, rfl⟩⟩ | exact ⟨fun _ => ⟨rfl, rfl⟩, fun q => absurd rfl q⟩) (by decide) (by decide)
          · refine r_iconst (pc := 82) C (v := 1) dX6_cut_82 (by decide) ?_
            refine r_goto (pc := 83) C (tgt := 87) dX6_cut_83 (by decide) ?_
            refine kX6_124 (pc := 87) C (ask2 l D _ _ _ hT (0 ≤ (nI i) ∧ (nI i) < nI nr) ((σ 69 i = 0 ∨ σ 69 i = 2) ∧ ng + N ≤ 80) (rfl) (fun hP0 => by first | exact absurd hP0 c_49 | (refine (bI_f ?_).symm; intro h; exact (Or.elim h.1 (fun g => c_58 g) (fun g => c_68 g))) | (refine (bI_f ?_).symm; intro h; exact absurd c_79 (Int32.not_lt.mpr ((nI_leI (a := ng + N) (b := 80) (by omega) (by decide)).mpr h.2))) | (refine (bI_t ?_).symm; refine ⟨Or.inl ?_, ?_⟩; exact c_58; exact ((nI_leI (a := ng + N) (b := 80) (by omega) (by decide)).mp (Int32.not_lt.mp c_79))) | (refine (bI_t ?_).symm; refine ⟨Or.inr ?_, ?_⟩; exact c_68; exact ((nI_leI (a := ng + N) (b := 80) (by omega) (by decide)).mp (Int32.not_lt.mp c_79))))) (hT.f (by decide)) rfl dX6_cut_87 (Nat.le_of_ble_eq_true rfl) (by decide) ?_
            rintro _ _ ⟨rfl, rfl⟩
            refine r_if_ne_b (pc := 90) C (tgt := 95) dX6_cut_90 (by decide) (fun c_90 => ?_) (fun c_90 => ?_)
            · have hok : (cd2 (0 ≤ (nI i) ∧ (nI i) < nI nr) ((σ 69 i = 0 ∨ σ 69 i = 2) ∧ ng + N ≤ 80)) = 0 := cd2_t c_90
              rw [hok]
              obtain ⟨τ, hτ⟩ : ∃ τ, up σ 60 0 0 = τ := ⟨_, rfl⟩
              rw [hτ]
              obtain ⟨hm1, hm3, hm26, hm18, hnp, hnr, hng, hnb5, hb, hsc, hlc, hpa, hro, hof, hte⟩ := (hτ ▸ ML_up 0 hS : ML nr ng np nb τ)
              obtain ⟨hP, hQ⟩ := c_90
              have hle : ∀ k, k ≤ 12 → ng + pcN (τ 68 i) k ≤ 80 := fun k hk => by
                have h9 : τ 68 i = σ 68 i := by rw [← hτ]; rfl
                have h8 := pcN_mono (σ 68 i) (a := k) 12 hk
                rw [← hN] at h8
                rw [h9]
                have h7 := hQ.2
                omega
              refine r_aload0 (pc := 95) C dX6_cut_95 ?_
              refine r_dup (pc := 96) C dX6_cut_96 rfl ?_
              refine gX6_191 (pc := 97) C hT dX6_cut_97 ?_
              refine r_aload0 (pc := 100) C dX6_cut_100 ?_
              refine gX6_16 (pc := 101) C hT dX6_cut_101 ?_
              refine r_iload1 (pc := 104) C dX6_cut_104 ?_
              refine a405 (pc := 105) C hT rfl (by omega) dX6_cut_105 ?_
              refine r_iadd (pc := 106) C dX6_cut_106 ?_
              refine pX6_191 (pc := 107) C hT dX6_cut_107 ?_
              refine r_iconst (pc := 110) C (v := 0) dX6_cut_110 (by decide) ?_
              refine r_istore4 (pc := 111) C dX6_cut_111 ?_
              have loop2 : ∀ (z k : Nat), k ≤ 12 → 12 < k + z → V D A 5 (T, ad, cO D ad ((cgM τ ng i k))) p l e (RM 7 0 0) s m args below meth c 0 0 (vx_MQ below (va_Qi (fun r S1 => ((0 : Int32) = 0 → r = nI (N) ∧ S1 = (T, ad, cO D ad (cutM τ ng i))) ∧ (¬ (0 : Int32) = 0 → r = 0 ∧ S1 = (T, ad, cO D ad (τ)))) (PoB D A) A) (XCs D (T, ad, cO D ad σ) A (nX)) args s 0 0 A) 113 [some (.ref (ad 400)), some (.int (nI i)), some (.int (bI (0 ≤ nI i ∧ nI i < nI nr))), some (.int (nI N)), some (.int (nI k))] [] := by
                intro z
                induction z with
                | zero => intro k h1 h2; omega
                | succ z ih =>
                  intro k h1 h2
                  have hk : nI k + 1 = nI (k + 1) := nI_1 k
                  refine r_iload4 (pc := 113) C dX6_cut_113 ?_
                  refine r_bipush (pc := 115) C (v := nI 12) dX6_cut_115 (by decide) ?_
                  refine r_icmp_geN (pc := 117) C (tgt := 258) dX6_cut_117 (by decide) (by omega) (by omega) (fun c_117 => ?_) (fun c_117 => ?_)
                  · have hk12 : k = 12 := by omega
                    rw [hk12]
                    refine r_aload0 (pc := 258) C dX6_cut_258 ?_
                    refine gX6_28 (pc := 259) C hT dX6_cut_259 ?_
                    refine r_iload1 (pc := 262) C dX6_cut_262 ?_
                    refine r_iconst (pc := 263) C (v := 3) dX6_cut_263 (by decide) ?_
                    refine b409 (pc := 264) C hT rfl (by omega) dX6_cut_264 ?_
                    refine r_aload0 (pc := 265) C dX6_cut_265 ?_
                    refine r_iload1 (pc := 266) C dX6_cut_266 ?_
                    refine kX6_164 (pc := 267) C (c_X6_ends l D _ _ _ hT _) (hT.f (by decide)) rfl dX6_cut_267 (Nat.le_of_ble_eq_true rfl) (by decide) ?_
                    rintro _ rfl
                    refine r_iload3 (pc := 270) C dX6_cut_270 ?_
                    exact r_iret C rfl dX6_cut_271 (⟨fun _ => ⟨rfl, rfl⟩, fun q => absurd rfl q⟩) (by decide) (by decide)
                  · have h68 : (cgM τ ng i k) 68 i = τ 68 i := by rw [cgM_r τ ng i (by decide) (by decide) k]
                    have h26 := cgM_26 (g := ng) (σ := τ) (i := i) hm26 k
                    obtain ⟨ρ, hρ⟩ : ∃ y, y = (cgM τ ng i k) := ⟨_, rfl⟩
                    rw [← hρ] at h68 h26 ⊢
                    refine r_aload0 (pc := 120) C dX6_cut_120 ?_
                    refine r_iload1 (pc := 121) C dX6_cut_121 ?_
                    refine r_iload4 (pc := 122) C dX6_cut_122 ?_
                    refine kX6_185 (pc := 124) C (c_X6_rowAt l D _ _ _ hT (by omega) (by omega)) (hT.f (by decide)) rfl dX6_cut_124 (Nat.le_of_ble_eq_true rfl) (by decide) ?_
                    rintro r124 _ ⟨hr9, rfl⟩
                    have hr8 : r124 = nI (plN (τ 68 i) k) := hr9.trans (congrArg (fun z => nI (plN z k)) h68)
                    subst hr8
                    refine r_if_le (pc := 127) C (tgt := 252) dX6_cut_127 (by decide) (fun c_127 => ?_) (fun c_127 => ?_)
                    · have hp0 : ¬ 0 < plN (τ 68 i) k := (plN_pos (by omega)).mp c_127
                      rw [hρ, show cgM τ ng i k = cgM τ ng i (k + 1) from (iF_f hp0).symm]
                      refine r_iinc4 (pc := 252) C dX6_cut_252 hk ?_
                      refine r_goto (pc := 255) C (tgt := 113) dX6_cut_255 (by decide) ?_
                      exact ih (k + 1) (by omega) (by omega)
                    · have hpos : 0 < plN (τ 68 i) k := Classical.not_not.mp (fun z => c_127 ((plN_pos (by omega)).mpr z))
                      obtain ⟨n, hn⟩ : ∃ y, y = ng + pcN (τ 68 i) k := ⟨_, rfl⟩
                      have hpc1 : pcN (τ 68 i) (k + 1) = pcN (τ 68 i) k + 1 := iF_t hpos
                      have hpm := hle (k + 1) (by omega)
                      have hn80 : n < 80 := by omega
                      rw [← hn] at h26
                      refine r_aload0 (pc := 130) C dX6_cut_130 ?_
                      refine gX6_75 (pc := 131) C hT dX6_cut_131 ?_
                      refine r_aload0 (pc := 134) C dX6_cut_134 ?_
                      refine gX6_118 (pc := 135) C hT dX6_cut_135 ?_
                      refine r_iload1 (pc := 138) C dX6_cut_138 ?_
                      refine b427 (pc := 139) C hT h26 (by omega) dX6_cut_139 ?_
                      refine r_aload0 (pc := 140) C dX6_cut_140 ?_
                      refine gX6_81 (pc := 141) C hT dX6_cut_141 ?_
                      refine r_aload0 (pc := 144) C dX6_cut_144 ?_
                      refine gX6_118 (pc := 145) C hT dX6_cut_145 ?_
                      refine r_iload4 (pc := 148) C dX6_cut_148 ?_
                      refine b429 (pc := 150) C hT h26 (by omega) dX6_cut_150 ?_
                      refine r_aload0 (pc := 151) C dX6_cut_151 ?_
                      refine gX6_84 (pc := 152) C hT dX6_cut_152 ?_
                      refine r_aload0 (pc := 155) C dX6_cut_155 ?_
                      refine gX6_118 (pc := 156) C hT dX6_cut_156 ?_
                      refine r_aload0 (pc := 159) C dX6_cut_159 ?_
                      refine r_iload1 (pc := 160) C dX6_cut_160 ?_
                      refine r_iload4 (pc := 161) C dX6_cut_161 ?_
                      refine kX6_185 (pc := 163) C (c_X6_rowAt l D _ _ _ hT (by omega) (by omega)) (hT.f (by decide)) rfl dX6_cut_163 (Nat.le_of_ble_eq_true rfl) (by decide) ?_
                      rintro r163 _ ⟨hr9, rfl⟩
                      have hr8 : r163 = nI (plN (τ 68 i) k) := hr9.trans (congrArg (fun z => nI (plN z k)) h68)
                      subst hr8
                      refine b430 (pc := 166) C hT h26 (by omega) dX6_cut_166 ?_
                      refine r_aload0 (pc := 167) C dX6_cut_167 ?_
                      refine gX6_78 (pc := 168) C hT dX6_cut_168 ?_
                      refine r_aload0 (pc := 171) C dX6_cut_171 ?_
                      refine gX6_118 (pc := 172) C hT dX6_cut_172 ?_
                      refine r_aload0 (pc := 175) C dX6_cut_175 ?_
                      refine r_iload1 (pc := 176) C dX6_cut_176 ?_
                      refine r_iload4 (pc := 177) C dX6_cut_177 ?_
                      refine kX6_185 (pc := 179) C (c_X6_rowAt l D _ _ _ hT (by omega) (by omega)) (hT.f (by decide)) rfl dX6_cut_179 (Nat.le_of_ble_eq_true rfl) (by decide) ?_
                      rintro r179 _ ⟨hr9, rfl⟩
                      have hr8 : r179 = nI (plN (τ 68 i) k) := hr9.trans (congrArg (fun z => nI (plN z k)) h68)
                      subst hr8
                      refine r_aload0 (pc := 182) C dX6_cut_182 ?_
                      refine gX6_16 (pc := 183) C hT dX6_cut_183 ?_
                      refine r_iload1 (pc := 186) C dX6_cut_186 ?_
                      refine a405 (pc := 187) C hT rfl (by omega) dX6_cut_187 ?_
                      refine r_imul (pc := 188) C dX6_cut_188 ?_
                      refine r_bipush (pc := 189) C (v := 12) dX6_cut_189 (by decide) ?_
                      refine r_idiv (pc := 191) C dX6_cut_191 (by decide) ?_
                      refine r_bipush (pc := 192) C (v := 60) dX6_cut_192 (by decide) ?_
                      refine r_imul (pc := 194) C dX6_cut_194 ?_
                      refine r_bipush (pc := 195) C (v := 100) dX6_cut_195 (by decide) ?_
                      refine r_idiv (pc := 197) C dX6_cut_197 (by decide) ?_
                      refine V_st (st2 := [.int (gwM ρ i (plN (τ 68 i) k)), .int ((up (up (up (ρ) 87 n (nI i)) 89 n (nI k)) 90 n (nI (plN (τ 68 i) k))) 60 26), .ref (ad 428)]) rfl ?_
                      refine b428 (pc := 198) C hT h26 (by omega) dX6_cut_198 ?_
                      refine r_aload0 (pc := 199) C dX6_cut_199 ?_
                      refine gX6_87 (pc := 200) C hT dX6_cut_200 ?_
                      refine r_aload0 (pc := 203) C dX6_cut_203 ?_
                      refine gX6_118 (pc := 204) C hT dX6_cut_204 ?_
                      refine r_aload0 (pc := 207) C dX6_cut_207 ?_
                      refine gX6_31 (pc := 208) C hT dX6_cut_208 ?_
                      refine r_iload1 (pc := 211) C dX6_cut_211 ?_
                      refine a410 (pc := 212) C hT rfl (by omega) dX6_cut_212 ?_
                      refine V_st (st2 := [.int (ρ 70 i), .int ((up (up (up (up (ρ) 87 n (nI i)) 89 n (nI k)) 90 n (nI (plN (τ 68 i) k))) 88 n (gwM ρ i (plN (τ 68 i) k))) 60 26), .ref (ad 431)]) rfl ?_
                      refine b431 (pc := 213) C hT h26 (by omega) dX6_cut_213 ?_
                      refine r_aload0 (pc := 214) C dX6_cut_214 ?_
                      refine gX6_90 (pc := 215) C hT dX6_cut_215 ?_
                      refine r_aload0 (pc := 218) C dX6_cut_218 ?_
                      refine gX6_118 (pc := 219) C hT dX6_cut_219 ?_
                      refine r_iconst (pc := 222) C (v := (-1)) dX6_cut_222 (by decide) ?_
                      refine b432 (pc := 223) C hT h26 (by omega) dX6_cut_223 ?_
                      refine r_aload0 (pc := 224) C dX6_cut_224 ?_
                      refine r_dup (pc := 225) C dX6_cut_225 rfl ?_
                      refine gX6_191 (pc := 226) C hT dX6_cut_226 ?_
                      refine r_aload0 (pc := 229) C dX6_cut_229 ?_
                      refine gX6_78 (pc := 230) C hT dX6_cut_230 ?_
                      refine r_aload0 (pc := 233) C dX6_cut_233 ?_
                      refine gX6_118 (pc := 234) C hT dX6_cut_234 ?_
                      refine a428 (pc := 237) C hT h26 (by omega) dX6_cut_237 ?_
                      rw [show (up (up (up (up (up (up (ρ) 87 n (nI i)) 89 n (nI k)) 90 n (nI (plN (τ 68 i) k))) 88 n (gwM ρ i (plN (τ 68 i) k))) 91 n (ρ 70 i)) 92 n (-1)) 88 n = gwM ρ i (plN (τ 68 i) k) by rw [up_ne (by decide), up_ne (by decide), up_self]]
                      refine r_isub (pc := 238) C dX6_cut_238 ?_
                      refine V_st (st2 := [.int (ρ 60 38 - gwM ρ i (plN (τ 68 i) k)), .ref (ad 400)]) rfl ?_
                      refine pX6_191 (pc := 239) C hT dX6_cut_239 ?_
                      refine r_aload0 (pc := 242) C dX6_cut_242 ?_
                      refine r_dup (pc := 243) C dX6_cut_243 rfl ?_
                      refine gX6_118 (pc := 244) C hT dX6_cut_244 ?_
                      refine r_iconst (pc := 247) C (v := 1) dX6_cut_247 (by decide) ?_
                      refine r_iadd (pc := 248) C dX6_cut_248 ?_
                      rw [show (up (up (up (up (up (up (up (ρ) 87 n (nI i)) 89 n (nI k)) 90 n (nI (plN (τ 68 i) k))) 88 n (gwM ρ i (plN (τ 68 i) k))) 91 n (ρ 70 i)) 92 n (-1)) 60 38 (ρ 60 38 - gwM ρ i (plN (τ 68 i) k))) 60 26 + 1 = nI (n + 1) by rw [show (up (up (up (up (up (up (up (ρ) 87 n (nI i)) 89 n (nI k)) 90 n (nI (plN (τ 68 i) k))) 88 n (gwM ρ i (plN (τ 68 i) k))) 91 n (ρ 70 i)) 92 n (-1)) 60 38 (ρ 60 38 - gwM ρ i (plN (τ 68 i) k))) 60 26 = ρ 60 26 from rfl, h26]; exact nI_1 n]
                      refine pX6_118 (pc := 249) C hT dX6_cut_249 ?_
                      refine V_c (S2 := (T, ad, cO D ad (cgM τ ng i (k + 1)))) (congrArg (fun z => (T, ad, cO D ad z)) ?_) rfl ?_
                      · rw [cgM, iF_t hpos, ← hρ, ← hn]; rfl
                      refine r_iinc4 (pc := 252) C dX6_cut_252 hk ?_
                      refine r_goto (pc := 255) C (tgt := 113) dX6_cut_255 (by decide) ?_
                      exact ih (k + 1) (by omega) (by omega)
              exact loop2 13 0 (by omega) (by omega)
            · have hno : ¬ (cd2 (0 ≤ (nI i) ∧ (nI i) < nI nr) ((σ 69 i = 0 ∨ σ 69 i = 2) ∧ ng + N ≤ 80)) = 0 := cd2_f (by assumption)
              refine r_iconst (pc := 93) C (v := 0) dX6_cut_93 (by decide) ?_
              exact r_iret C rfl dX6_cut_94 (by first | exact ⟨fun q => absurd q hno, fun _ => ⟨rfl, rfl⟩⟩ | exact ⟨fun _ => ⟨rfl, rfl⟩, fun q => absurd rfl q⟩) (by decide) (by decide)
        · refine r_aload0 (pc := 61) C dX6_cut_61 ?_
          refine gX6_28 (pc := 62) C hT dX6_cut_62 ?_
          refine r_iload1 (pc := 65) C dX6_cut_65 ?_
          refine a409 (pc := 66) C hT rfl (by omega) dX6_cut_66 ?_
          refine r_iconst (pc := 67) C (v := 2) dX6_cut_67 (by decide) ?_
          refine r_icmp_ne (pc := 68) C (tgt := 86) dX6_cut_68 (by decide) (fun c_68 => ?_) (fun c_68 => ?_)
          · refine r_iconst (pc := 86) C (v := 0) dX6_cut_86 (by decide) ?_
            refine kX6_124 (pc := 87) C (ask2 l D _ _ _ hT (0 ≤ (nI i) ∧ (nI i) < nI nr) ((σ 69 i = 0 ∨ σ 69 i = 2) ∧ ng + N ≤ 80) (rfl) (fun hP0 => by first | exact absurd hP0 c_49 | (refine (bI_f ?_).symm; intro h; exact (Or.elim h.1 (fun g => c_58 g) (fun g => c_68 g))) | (refine (bI_f ?_).symm; intro h; exact absurd c_79 (Int32.not_lt.mpr ((nI_leI (a := ng + N) (b := 80) (by omega) (by decide)).mpr h.2))) | (refine (bI_t ?_).symm; refine ⟨Or.inl ?_, ?_⟩; exact c_58; exact ((nI_leI (a := ng + N) (b := 80) (by omega) (by decide)).mp (Int32.not_lt.mp c_79))) | (refine (bI_t ?_).symm; refine ⟨Or.inr ?_, ?_⟩; exact c_68; exact ((nI_leI (a := ng + N) (b := 80) (by omega) (by decide)).mp (Int32.not_lt.mp c_79))))) (hT.f (by decide)) rfl dX6_cut_87 (Nat.le_of_ble_eq_true rfl) (by decide) ?_
            rintro _ _ ⟨rfl, rfl⟩
            refine r_if_ne_b (pc := 90) C (tgt := 95) dX6_cut_90 (by decide) (fun c_90 => ?_) (fun c_90 => ?_)
            · have hok : (cd2 (0 ≤ (nI i) ∧ (nI i) < nI nr) ((σ 69 i = 0 ∨ σ 69 i = 2) ∧ ng + N ≤ 80)) = 0 := cd2_t c_90
              rw [hok]
              obtain ⟨τ, hτ⟩ : ∃ τ, up σ 60 0 0 = τ := ⟨_, rfl⟩
              rw [hτ]
              obtain ⟨hm1, hm3, hm26, hm18, hnp, hnr, hng, hnb5, hb, hsc, hlc, hpa, hro, hof, hte⟩ := (hτ ▸ ML_up 0 hS : ML nr ng np nb τ)
              obtain ⟨hP, hQ⟩ := c_90
              have hle : ∀ k, k ≤ 12 → ng + pcN (τ 68 i) k ≤ 80 := fun k hk => by
                have h9 : τ 68 i = σ 68 i := by rw [← hτ]; rfl
                have h8 := pcN_mono (σ 68 i) (a := k) 12 hk
                rw [← hN] at h8
                rw [h9]
                have h7 := hQ.2
                omega
              refine r_aload0 (pc := 95) C dX6_cut_95 ?_
              refine r_dup (pc := 96) C dX6_cut_96 rfl ?_
              refine gX6_191 (pc := 97) C hT dX6_cut_97 ?_
              refine r_aload0 (pc := 100) C dX6_cut_100 ?_
              refine gX6_16 (pc := 101) C hT dX6_cut_101 ?_
              refine r_iload1 (pc := 104) C dX6_cut_104 ?_
              refine a405 (pc := 105) C hT rfl (by omega) dX6_cut_105 ?_
              refine r_iadd (pc := 106) C dX6_cut_106 ?_
              refine pX6_191 (pc := 107) C hT dX6_cut_107 ?_
              refine r_iconst (pc := 110) C (v := 0) dX6_cut_110 (by decide) ?_
              refine r_istore4 (pc := 111) C dX6_cut_111 ?_
              have loop2 : ∀ (z k : Nat), k ≤ 12 → 12 < k + z → V D A 5 (T, ad, cO D ad ((cgM τ ng i k))) p l e (RM 7 0 0) s m args below meth c 0 0 (vx_MQ below (va_Qi (fun r S1 => ((0 : Int32) = 0 → r = nI (N) ∧ S1 = (T, ad, cO D ad (cutM τ ng i))) ∧ (¬ (0 : Int32) = 0 → r = 0 ∧ S1 = (T, ad, cO D ad (τ)))) (PoB D A) A) (XCs D (T, ad, cO D ad σ) A (nX)) args s 0 0 A) 113 [some (.ref (ad 400)), some (.int (nI i)), some (.int (bI (0 ≤ nI i ∧ nI i < nI nr))), some (.int (nI N)), some (.int (nI k))] [] := by
                intro z
                induction z with
                | zero => intro k h1 h2; omega
                | succ z ih =>
                  intro k h1 h2
                  have hk : nI k + 1 = nI (k + 1) := nI_1 k
                  refine r_iload4 (pc := 113) C dX6_cut_113 ?_
                  refine r_bipush (pc := 115) C (v := nI 12) dX6_cut_115 (by decide) ?_
                  refine r_icmp_geN (pc := 117) C (tgt := 258) dX6_cut_117 (by decide) (by omega) (by omega) (fun c_117 => ?_) (fun c_117 => ?_)
                  · have hk12 : k = 12 := by omega
                    rw [hk12]
                    refine r_aload0 (pc := 258) C dX6_cut_258 ?_
                    refine gX6_28 (pc := 259) C hT dX6_cut_259 ?_
                    refine r_iload1 (pc := 262) C dX6_cut_262 ?_
                    refine r_iconst (pc := 263) C (v := 3) dX6_cut_263 (by decide) ?_
                    refine b409 (pc := 264) C hT rfl (by omega) dX6_cut_264 ?_
                    refine r_aload0 (pc := 265) C dX6_cut_265 ?_
                    refine r_iload1 (pc := 266) C dX6_cut_266 ?_
                    refine kX6_164 (pc := 267) C (c_X6_ends l D _ _ _ hT _) (hT.f (by decide)) rfl dX6_cut_267 (Nat.le_of_ble_eq_true rfl) (by decide) ?_
                    rintro _ rfl
                    refine r_iload3 (pc := 270) C dX6_cut_270 ?_
                    exact r_iret C rfl dX6_cut_271 (⟨fun _ => ⟨rfl, rfl⟩, fun q => absurd rfl q⟩) (by decide) (by decide)
                  · have h68 : (cgM τ ng i k) 68 i = τ 68 i := by rw [cgM_r τ ng i (by decide) (by decide) k]
                    have h26 := cgM_26 (g := ng) (σ := τ) (i := i) hm26 k
                    obtain ⟨ρ, hρ⟩ : ∃ y, y = (cgM τ ng i k) := ⟨_, rfl⟩
                    rw [← hρ] at h68 h26 ⊢
                    refine r_aload0 (pc := 120) C dX6_cut_120 ?_
                    refine r_iload1 (pc := 121) C dX6_cut_121 ?_
                    refine r_iload4 (pc := 122) C dX6_cut_122 ?_
                    refine kX6_185 (pc := 124) C (c_X6_rowAt l D _ _ _ hT (by omega) (by omega)) (hT.f (by decide)) rfl dX6_cut_124 (Nat.le_of_ble_eq_true rfl) (by decide) ?_
                    rintro r124 _ ⟨hr9, rfl⟩
                    have hr8 : r124 = nI (plN (τ 68 i) k) := hr9.trans (congrArg (fun z => nI (plN z k)) h68)
                    subst hr8
                    refine r_if_le (pc := 127) C (tgt := 252) dX6_cut_127 (by decide) (fun c_127 => ?_) (fun c_127 => ?_)
                    · have hp0 : ¬ 0 < plN (τ 68 i) k := (plN_pos (by omega)).mp c_127
                      rw [hρ, show cgM τ ng i k = cgM τ ng i (k + 1) from (iF_f hp0).symm]
                      refine r_iinc4 (pc := 252) C dX6_cut_252 hk ?_
                      refine r_goto (pc := 255) C (tgt := 113) dX6_cut_255 (by decide) ?_
                      exact ih (k + 1) (by omega) (by omega)
                    · have hpos : 0 < plN (τ 68 i) k := Classical.not_not.mp (fun z => c_127 ((plN_pos (by omega)).mpr z))
                      obtain ⟨n, hn⟩ : ∃ y, y = ng + pcN (τ 68 i) k := ⟨_, rfl⟩
                      have hpc1 : pcN (τ 68 i) (k + 1) = pcN (τ 68 i) k + 1 := iF_t hpos
                      have hpm := hle (k + 1) (by omega)
                      have hn80 : n < 80 := by omega
                      rw [← hn] at h26
                      refine r_aload0 (pc := 130) C dX6_cut_130 ?_
                      refine gX6_75 (pc := 131) C hT dX6_cut_131 ?_
                      refine r_aload0 (pc := 134) C dX6_cut_134 ?_
                      refine gX6_118 (pc := 135) C hT dX6_cut_135 ?_
                      refine r_iload1 (pc := 138) C dX6_cut_138 ?_
                      refine b427 (pc := 139) C hT h26 (by omega) dX6_cut_139 ?_
                      refine r_aload0 (pc := 140) C dX6_cut_140 ?_
                      refine gX6_81 (pc := 141) C hT dX6_cut_141 ?_
                      refine r_aload0 (pc := 144) C dX6_cut_144 ?_
                      refine gX6_118 (pc := 145) C hT dX6_cut_145 ?_
                      refine r_iload4 (pc := 148) C dX6_cut_148 ?_
                      refine b429 (pc := 150) C hT h26 (by omega) dX6_cut_150 ?_
                      refine r_aload0 (pc := 151) C dX6_cut_151 ?_
                      refine gX6_84 (pc := 152) C hT dX6_cut_152 ?_
                      refine r_aload0 (pc := 155) C dX6_cut_155 ?_
                      refine gX6_118 (pc := 156) C hT dX6_cut_156 ?_
                      refine r_aload0 (pc := 159) C dX6_cut_159 ?_
                      refine r_iload1 (pc := 160) C dX6_cut_160 ?_
                      refine r_iload4 (pc := 161) C dX6_cut_161 ?_
                      refine kX6_185 (pc := 163) C (c_X6_rowAt l D _ _ _ hT (by omega) (by omega)) (hT.f (by decide)) rfl dX6_cut_163 (Nat.le_of_ble_eq_true rfl) (by decide) ?_
                      rintro r163 _ ⟨hr9, rfl⟩
                      have hr8 : r163 = nI (plN (τ 68 i) k) := hr9.trans (congrArg (fun z => nI (plN z k)) h68)
                      subst hr8
                      refine b430 (pc := 166) C hT h26 (by omega) dX6_cut_166 ?_
                      refine r_aload0 (pc := 167) C dX6_cut_167 ?_
                      refine gX6_78 (pc := 168) C hT dX6_cut_168 ?_
                      refine r_aload0 (pc := 171) C dX6_cut_171 ?_
                      refine gX6_118 (pc := 172) C hT dX6_cut_172 ?_
                      refine r_aload0 (pc := 175) C dX6_cut_175 ?_
                      refine r_iload1 (pc := 176) C dX6_cut_176 ?_
                      refine r_iload4 (pc := 177) C dX6_cut_177 ?_
                      refine kX6_185 (pc := 179) C (c_X6_rowAt l D _ _ _ hT (by omega) (by omega)) (hT.f (by decide)) rfl dX6_cut_179 (Nat.le_of_ble_eq_true rfl) (by decide) ?_
                      rintro r179 _ ⟨hr9, rfl⟩
                      have hr8 : r179 = nI (plN (τ 68 i) k) := hr9.trans (congrArg (fun z => nI (plN z k)) h68)
                      subst hr8
                      refine r_aload0 (pc := 182) C dX6_cut_182 ?_
                      refine gX6_16 (pc := 183) C hT dX6_cut_183 ?_
                      refine r_iload1 (pc := 186) C dX6_cut_186 ?_
                      refine a405 (pc := 187) C hT rfl (by omega) dX6_cut_187 ?_
                      refine r_imul (pc := 188) C dX6_cut_188 ?_
                      refine r_bipush (pc := 189) C (v := 12) dX6_cut_189 (by decide) ?_
                      refine r_idiv (pc := 191) C dX6_cut_191 (by decide) ?_
                      refine r_bipush (pc := 192) C (v := 60) dX6_cut_192 (by decide) ?_
                      refine r_imul (pc := 194) C dX6_cut_194 ?_
                      refine r_bipush (pc := 195) C (v := 100) dX6_cut_195 (by decide) ?_
                      refine r_idiv (pc := 197) C dX6_cut_197 (by decide) ?_
                      refine V_st (st2 := [.int (gwM ρ i (plN (τ 68 i) k)), .int ((up (up (up (ρ) 87 n (nI i)) 89 n (nI k)) 90 n (nI (plN (τ 68 i) k))) 60 26), .ref (ad 428)]) rfl ?_
                      refine b428 (pc := 198) C hT h26 (by omega) dX6_cut_198 ?_
                      refine r_aload0 (pc := 199) C dX6_cut_199 ?_
                      refine gX6_87 (pc := 200) C hT dX6_cut_200 ?_
                      refine r_aload0 (pc := 203) C dX6_cut_203 ?_
                      refine gX6_118 (pc := 204) C hT dX6_cut_204 ?_
                      refine r_aload0 (pc := 207) C dX6_cut_207 ?_
                      refine gX6_31 (pc := 208) C hT dX6_cut_208 ?_
                      refine r_iload1 (pc := 211) C dX6_cut_211 ?_
                      refine a410 (pc := 212) C hT rfl (by omega) dX6_cut_212 ?_
                      refine V_st (st2 := [.int (ρ 70 i), .int ((up (up (up (up (ρ) 87 n (nI i)) 89 n (nI k)) 90 n (nI (plN (τ 68 i) k))) 88 n (gwM ρ i (plN (τ 68 i) k))) 60 26), .ref (ad 431)]) rfl ?_
                      refine b431 (pc := 213) C hT h26 (by omega) dX6_cut_213 ?_
                      refine r_aload0 (pc := 214) C dX6_cut_214 ?_
                      refine gX6_90 (pc := 215) C hT dX6_cut_215 ?_
                      refine r_aload0 (pc := 218) C dX6_cut_218 ?_
                      refine gX6_118 (pc := 219) C hT dX6_cut_219 ?_
                      refine r_iconst (pc := 222) C (v := (-1)) dX6_cut_222 (by decide) ?_
                      refine b432 (pc := 223) C hT h26 (by omega) dX6_cut_223 ?_
                      refine r_aload0 (pc := 224) C dX6_cut_224 ?_
                      refine r_dup (pc := 225) C dX6_cut_225 rfl ?_
                      refine gX6_191 (pc := 226) C hT dX6_cut_226 ?_
                      refine r_aload0 (pc := 229) C dX6_cut_229 ?_
                      refine gX6_78 (pc := 230) C hT dX6_cut_230 ?_
                      refine r_aload0 (pc := 233) C dX6_cut_233 ?_
                      refine gX6_118 (pc := 234) C hT dX6_cut_234 ?_
                      refine a428 (pc := 237) C hT h26 (by omega) dX6_cut_237 ?_
                      rw [show (up (up (up (up (up (up (ρ) 87 n (nI i)) 89 n (nI k)) 90 n (nI (plN (τ 68 i) k))) 88 n (gwM ρ i (plN (τ 68 i) k))) 91 n (ρ 70 i)) 92 n (-1)) 88 n = gwM ρ i (plN (τ 68 i) k) by rw [up_ne (by decide), up_ne (by decide), up_self]]
                      refine r_isub (pc := 238) C dX6_cut_238 ?_
                      refine V_st (st2 := [.int (ρ 60 38 - gwM ρ i (plN (τ 68 i) k)), .ref (ad 400)]) rfl ?_
                      refine pX6_191 (pc := 239) C hT dX6_cut_239 ?_
                      refine r_aload0 (pc := 242) C dX6_cut_242 ?_
                      refine r_dup (pc := 243) C dX6_cut_243 rfl ?_
                      refine gX6_118 (pc := 244) C hT dX6_cut_244 ?_
                      refine r_iconst (pc := 247) C (v := 1) dX6_cut_247 (by decide) ?_
                      refine r_iadd (pc := 248) C dX6_cut_248 ?_
                      rw [show (up (up (up (up (up (up (up (ρ) 87 n (nI i)) 89 n (nI k)) 90 n (nI (plN (τ 68 i) k))) 88 n (gwM ρ i (plN (τ 68 i) k))) 91 n (ρ 70 i)) 92 n (-1)) 60 38 (ρ 60 38 - gwM ρ i (plN (τ 68 i) k))) 60 26 + 1 = nI (n + 1) by rw [show (up (up (up (up (up (up (up (ρ) 87 n (nI i)) 89 n (nI k)) 90 n (nI (plN (τ 68 i) k))) 88 n (gwM ρ i (plN (τ 68 i) k))) 91 n (ρ 70 i)) 92 n (-1)) 60 38 (ρ 60 38 - gwM ρ i (plN (τ 68 i) k))) 60 26 = ρ 60 26 from rfl, h26]; exact nI_1 n]
                      refine pX6_118 (pc := 249) C hT dX6_cut_249 ?_
                      refine V_c (S2 := (T, ad, cO D ad (cgM τ ng i (k + 1)))) (congrArg (fun z => (T, ad, cO D ad z)) ?_) rfl ?_
                      · rw [cgM, iF_t hpos, ← hρ, ← hn]; rfl
                      refine r_iinc4 (pc := 252) C dX6_cut_252 hk ?_
                      refine r_goto (pc := 255) C (tgt := 113) dX6_cut_255 (by decide) ?_
                      exact ih (k + 1) (by omega) (by omega)
              exact loop2 13 0 (by omega) (by omega)
            · have hno : ¬ (cd2 (0 ≤ (nI i) ∧ (nI i) < nI nr) ((σ 69 i = 0 ∨ σ 69 i = 2) ∧ ng + N ≤ 80)) = 0 := cd2_f (by assumption)
              refine r_iconst (pc := 93) C (v := 0) dX6_cut_93 (by decide) ?_
              exact r_iret C rfl dX6_cut_94 (by first | exact ⟨fun q => absurd q hno, fun _ => ⟨rfl, rfl⟩⟩ | exact ⟨fun _ => ⟨rfl, rfl⟩, fun q => absurd rfl q⟩) (by decide) (by decide)
          · refine r_aload0 (pc := 71) C dX6_cut_71 ?_
            refine gX6_118 (pc := 72) C hT dX6_cut_72 ?_
            rw [hm26]
            refine r_iload3 (pc := 75) C dX6_cut_75 ?_
            refine r_iadd (pc := 76) C dX6_cut_76 ?_
            rw [show nI ng + nI N = nI (ng + N) from nI_add _ _]
            refine r_bipush (pc := 77) C (v := 80) dX6_cut_77 (by decide) ?_
            refine r_icmp_gt (pc := 79) C (tgt := 86) dX6_cut_79 (by decide) (fun c_79 => ?_) (fun c_79 => ?_)
            · refine r_iconst (pc := 86) C (v := 0) dX6_cut_86 (by decide) ?_
              refine kX6_124 (pc := 87) C (ask2 l D _ _ _ hT (0 ≤ (nI i) ∧ (nI i) < nI nr) ((σ 69 i = 0 ∨ σ 69 i = 2) ∧ ng + N ≤ 80) (rfl) (fun hP0 => by first | exact absurd hP0 c_49 | (refine (bI_f ?_).symm; intro h; exact (Or.elim h.1 (fun g => c_58 g) (fun g => c_68 g))) | (refine (bI_f ?_).symm; intro h; exact absurd c_79 (Int32.not_lt.mpr ((nI_leI (a := ng + N) (b := 80) (by omega) (by decide)).mpr h.2))) | (refine (bI_t ?_).symm; refine ⟨Or.inl ?_, ?_⟩; exact c_58; exact ((nI_leI (a := ng + N) (b := 80) (by omega) (by decide)).mp (Int32.not_lt.mp c_79))) | (refine (bI_t ?_).symm; refine ⟨Or.inr ?_, ?_⟩; exact c_68; exact ((nI_leI (a := ng + N) (b := 80) (by omega) (by decide)).mp (Int32.not_lt.mp c_79))))) (hT.f (by decide)) rfl dX6_cut_87 (Nat.le_of_ble_eq_true rfl) (by decide) ?_
              rintro _ _ ⟨rfl, rfl⟩
              refine r_if_ne_b (pc := 90) C (tgt := 95) dX6_cut_90 (by decide) (fun c_90 => ?_) (fun c_90 => ?_)
              · have hok : (cd2 (0 ≤ (nI i) ∧ (nI i) < nI nr) ((σ 69 i = 0 ∨ σ 69 i = 2) ∧ ng + N ≤ 80)) = 0 := cd2_t c_90
                rw [hok]
                obtain ⟨τ, hτ⟩ : ∃ τ, up σ 60 0 0 = τ := ⟨_, rfl⟩
                rw [hτ]
                obtain ⟨hm1, hm3, hm26, hm18, hnp, hnr, hng, hnb5, hb, hsc, hlc, hpa, hro, hof, hte⟩ := (hτ ▸ ML_up 0 hS : ML nr ng np nb τ)
                obtain ⟨hP, hQ⟩ := c_90
                have hle : ∀ k, k ≤ 12 → ng + pcN (τ 68 i) k ≤ 80 := fun k hk => by
                  have h9 : τ 68 i = σ 68 i := by rw [← hτ]; rfl
                  have h8 := pcN_mono (σ 68 i) (a := k) 12 hk
                  rw [← hN] at h8
                  rw [h9]
                  have h7 := hQ.2
                  omega
                refine r_aload0 (pc := 95) C dX6_cut_95 ?_
                refine r_dup (pc := 96) C dX6_cut_96 rfl ?_
                refine gX6_191 (pc := 97) C hT dX6_cut_97 ?_
                refine r_aload0 (pc := 100) C dX6_cut_100 ?_
                refine gX6_16 (pc := 101) C hT dX6_cut_101 ?_
                refine r_iload1 (pc := 104) C dX6_cut_104 ?_
                refine a405 (pc := 105) C hT rfl (by omega) dX6_cut_105 ?_
                refine r_iadd (pc := 106) C dX6_cut_106 ?_
                refine pX6_191 (pc := 107) C hT dX6_cut_107 ?_
                refine r_iconst (pc := 110) C (v := 0) dX6_cut_110 (by decide) ?_
                refine r_istore4 (pc := 111) C dX6_cut_111 ?_
                have loop2 : ∀ (z k : Nat), k ≤ 12 → 12 < k + z → V D A 5 (T, ad, cO D ad ((cgM τ ng i k))) p l e (RM 7 0 0) s m args below meth c 0 0 (vx_MQ below (va_Qi (fun r S1 => ((0 : Int32) = 0 → r = nI (N) ∧ S1 = (T, ad, cO D ad (cutM τ ng i))) ∧ (¬ (0 : Int32) = 0 → r = 0 ∧ S1 = (T, ad, cO D ad (τ)))) (PoB D A) A) (XCs D (T, ad, cO D ad σ) A (nX)) args s 0 0 A) 113 [some (.ref (ad 400)), some (.int (nI i)), some (.int (bI (0 ≤ nI i ∧ nI i < nI nr))), some (.int (nI N)), some (.int (nI k))] [] := by
                  intro z
                  induction z with
                  | zero => intro k h1 h2; omega
                  | succ z ih =>
                    intro k h1 h2
                    have hk : nI k + 1 = nI (k + 1) := nI_1 k
                    refine r_iload4 (pc := 113) C dX6_cut_113 ?_
                    refine r_bipush (pc := 115) C (v := nI 12) dX6_cut_115 (by decide) ?_
                    refine r_icmp_geN (pc := 117) C (tgt := 258) dX6_cut_117 (by decide) (by omega) (by omega) (fun c_117 => ?_) (fun c_117 => ?_)
                    · have hk12 : k = 12 := by omega
                      rw [hk12]
                      refine r_aload0 (pc := 258) C dX6_cut_258 ?_
                      refine gX6_28 (pc := 259) C hT dX6_cut_259 ?_
                      refine r_iload1 (pc := 262) C dX6_cut_262 ?_
                      refine r_iconst (pc := 263) C (v := 3) dX6_cut_263 (by decide) ?_
                      refine b409 (pc := 264) C hT rfl (by omega) dX6_cut_264 ?_
                      refine r_aload0 (pc := 265) C dX6_cut_265 ?_
                      refine r_iload1 (pc := 266) C dX6_cut_266 ?_
                      refine kX6_164 (pc := 267) C (c_X6_ends l D _ _ _ hT _) (hT.f (by decide)) rfl dX6_cut_267 (Nat.le_of_ble_eq_true rfl) (by decide) ?_
                      rintro _ rfl
                      refine r_iload3 (pc := 270) C dX6_cut_270 ?_
                      exact r_iret C rfl dX6_cut_271 (⟨fun _ => ⟨rfl, rfl⟩, fun q => absurd rfl q⟩) (by decide) (by decide)
                    · have h68 : (cgM τ ng i k) 68 i = τ 68 i := by rw [cgM_r τ ng i (by decide) (by decide) k]
                      have h26 := cgM_26 (g := ng) (σ := τ) (i := i) hm26 k
                      obtain ⟨ρ, hρ⟩ : ∃ y, y = (cgM τ ng i k) := ⟨_, rfl⟩
                      rw [← hρ] at h68 h26 ⊢
                      refine r_aload0 (pc := 120) C dX6_cut_120 ?_
                      refine r_iload1 (pc := 121) C dX6_cut_121 ?_
                      refine r_iload4 (pc := 122) C dX6_cut_122 ?_
                      refine kX6_185 (pc := 124) C (c_X6_rowAt l D _ _ _ hT (by omega) (by omega)) (hT.f (by decide)) rfl dX6_cut_124 (Nat.le_of_ble_eq_true rfl) (by decide) ?_
                      rintro r124 _ ⟨hr9, rfl⟩
                      have hr8 : r124 = nI (plN (τ 68 i) k) := hr9.trans (congrArg (fun z => nI (plN z k)) h68)
                      subst hr8
                      refine r_if_le (pc := 127) C (tgt := 252) dX6_cut_127 (by decide) (fun c_127 => ?_) (fun c_127 => ?_)
                      · have hp0 : ¬ 0 < plN (τ 68 i) k := (plN_pos (by omega)).mp c_127
                        rw [hρ, show cgM τ ng i k = cgM τ ng i (k + 1) from (iF_f hp0).symm]
                        refine r_iinc4 (pc := 252) C dX6_cut_252 hk ?_
                        refine r_goto (pc := 255) C (tgt := 113) dX6_cut_255 (by decide) ?_
                        exact ih (k + 1) (by omega) (by omega)
                      · have hpos : 0 < plN (τ 68 i) k := Classical.not_not.mp (fun z => c_127 ((plN_pos (by omega)).mpr z))
                        obtain ⟨n, hn⟩ : ∃ y, y = ng + pcN (τ 68 i) k := ⟨_, rfl⟩
                        have hpc1 : pcN (τ 68 i) (k + 1) = pcN (τ 68 i) k + 1 := iF_t hpos
                        have hpm := hle (k + 1) (by omega)
                        have hn80 : n < 80 := by omega
                        rw [← hn] at h26
                        refine r_aload0 (pc := 130) C dX6_cut_130 ?_
                        refine gX6_75 (pc := 131) C hT dX6_cut_131 ?_
                        refine r_aload0 (pc := 134) C dX6_cut_134 ?_
                        refine gX6_118 (pc := 135) C hT dX6_cut_135 ?_
                        refine r_iload1 (pc := 138) C dX6_cut_138 ?_
                        refine b427 (pc := 139) C hT h26 (by omega) dX6_cut_139 ?_
                        refine r_aload0 (pc := 140) C dX6_cut_140 ?_
                        refine gX6_81 (pc := 141) C hT dX6_cut_141 ?_
                        refine r_aload0 (pc := 144) C dX6_cut_144 ?_
                        refine gX6_118 (pc := 145) C hT dX6_cut_145 ?_
                        refine r_iload4 (pc := 148) C dX6_cut_148 ?_
                        refine b429 (pc := 150) C hT h26 (by omega) dX6_cut_150 ?_
                        refine r_aload0 (pc := 151) C dX6_cut_151 ?_
                        refine gX6_84 (pc := 152) C hT dX6_cut_152 ?_
                        refine r_aload0 (pc := 155) C dX6_cut_155 ?_
                        refine gX6_118 (pc := 156) C hT dX6_cut_156 ?_
                        refine r_aload0 (pc := 159) C dX6_cut_159 ?_
                        refine r_iload1 (pc := 160) C dX6_cut_160 ?_
                        refine r_iload4 (pc := 161) C dX6_cut_161 ?_
                        refine kX6_185 (pc := 163) C (c_X6_rowAt l D _ _ _ hT (by omega) (by omega)) (hT.f (by decide)) rfl dX6_cut_163 (Nat.le_of_ble_eq_true rfl) (by decide) ?_
                        rintro r163 _ ⟨hr9, rfl⟩
                        have hr8 : r163 = nI (plN (τ 68 i) k) := hr9.trans (congrArg (fun z => nI (plN z k)) h68)
                        subst hr8
                        refine b430 (pc := 166) C hT h26 (by omega) dX6_cut_166 ?_
                        refine r_aload0 (pc := 167) C dX6_cut_167 ?_
                        refine gX6_78 (pc := 168) C hT dX6_cut_168 ?_
                        refine r_aload0 (pc := 171) C dX6_cut_171 ?_
                        refine gX6_118 (pc := 172) C hT dX6_cut_172 ?_
                        refine r_aload0 (pc := 175) C dX6_cut_175 ?_
                        refine r_iload1 (pc := 176) C dX6_cut_176 ?_
                        refine r_iload4 (pc := 177) C dX6_cut_177 ?_
                        refine kX6_185 (pc := 179) C (c_X6_rowAt l D _ _ _ hT (by omega) (by omega)) (hT.f (by decide)) rfl dX6_cut_179 (Nat.le_of_ble_eq_true rfl) (by decide) ?_
                        rintro r179 _ ⟨hr9, rfl⟩
                        have hr8 : r179 = nI (plN (τ 68 i) k) := hr9.trans (congrArg (fun z => nI (plN z k)) h68)
                        subst hr8
                        refine r_aload0 (pc := 182) C dX6_cut_182 ?_
                        refine gX6_16 (pc := 183) C hT dX6_cut_183 ?_
                        refine r_iload1 (pc := 186) C dX6_cut_186 ?_
                        refine a405 (pc := 187) C hT rfl (by omega) dX6_cut_187 ?_
                        refine r_imul (pc := 188) C dX6_cut_188 ?_
                        refine r_bipush (pc := 189) C (v := 12) dX6_cut_189 (by decide) ?_
                        refine r_idiv (pc := 191) C dX6_cut_191 (by decide) ?_
                        refine r_bipush (pc := 192) C (v := 60) dX6_cut_192 (by decide) ?_
                        refine r_imul (pc := 194) C dX6_cut_194 ?_
                        refine r_bipush (pc := 195) C (v := 100) dX6_cut_195 (by decide) ?_
                        refine r_idiv (pc := 197) C dX6_cut_197 (by decide) ?_
                        refine V_st (st2 := [.int (gwM ρ i (plN (τ 68 i) k)), .int ((up (up (up (ρ) 87 n (nI i)) 89 n (nI k)) 90 n (nI (plN (τ 68 i) k))) 60 26), .ref (ad 428)]) rfl ?_
                        refine b428 (pc := 198) C hT h26 (by omega) dX6_cut_198 ?_
                        refine r_aload0 (pc := 199) C dX6_cut_199 ?_
                        refine gX6_87 (pc := 200) C hT dX6_cut_200 ?_
                        refine r_aload0 (pc := 203) C dX6_cut_203 ?_
                        refine gX6_118 (pc := 204) C hT dX6_cut_204 ?_
                        refine r_aload0 (pc := 207) C dX6_cut_207 ?_
                        refine gX6_31 (pc := 208) C hT dX6_cut_208 ?_
                        refine r_iload1 (pc := 211) C dX6_cut_211 ?_
                        refine a410 (pc := 212) C hT rfl (by omega) dX6_cut_212 ?_
                        refine V_st (st2 := [.int (ρ 70 i), .int ((up (up (up (up (ρ) 87 n (nI i)) 89 n (nI k)) 90 n (nI (plN (τ 68 i) k))) 88 n (gwM ρ i (plN (τ 68 i) k))) 60 26), .ref (ad 431)]) rfl ?_
                        refine b431 (pc := 213) C hT h26 (by omega) dX6_cut_213 ?_
                        refine r_aload0 (pc := 214) C dX6_cut_214 ?_
                        refine gX6_90 (pc := 215) C hT dX6_cut_215 ?_
                        refine r_aload0 (pc := 218) C dX6_cut_218 ?_
                        refine gX6_118 (pc := 219) C hT dX6_cut_219 ?_
                        refine r_iconst (pc := 222) C (v := (-1)) dX6_cut_222 (by decide) ?_
                        refine b432 (pc := 223) C hT h26 (by omega) dX6_cut_223 ?_
                        refine r_aload0 (pc := 224) C dX6_cut_224 ?_
                        refine r_dup (pc := 225) C dX6_cut_225 rfl ?_
                        refine gX6_191 (pc := 226) C hT dX6_cut_226 ?_
                        refine r_aload0 (pc := 229) C dX6_cut_229 ?_
                        refine gX6_78 (pc := 230) C hT dX6_cut_230 ?_
                        refine r_aload0 (pc := 233) C dX6_cut_233 ?_
                        refine gX6_118 (pc := 234) C hT dX6_cut_234 ?_
                        refine a428 (pc := 237) C hT h26 (by omega) dX6_cut_237 ?_
                        rw [show (up (up (up (up (up (up (ρ) 87 n (nI i)) 89 n (nI k)) 90 n (nI (plN (τ 68 i) k))) 88 n (gwM ρ i (plN (τ 68 i) k))) 91 n (ρ 70 i)) 92 n (-1)) 88 n = gwM ρ i (plN (τ 68 i) k) by rw [up_ne (by decide), up_ne (by decide), up_self]]
                        refine r_isub (pc := 238) C dX6_cut_238 ?_
                        refine V_st (st2 := [.int (ρ 60 38 - gwM ρ i (plN (τ 68 i) k)), .ref (ad 400)]) rfl ?_
                        refine pX6_191 (pc := 239) C hT dX6_cut_239 ?_
                        refine r_aload0 (pc := 242) C dX6_cut_242 ?_
                        refine r_dup (pc := 243) C dX6_cut_243 rfl ?_
                        refine gX6_118 (pc := 244) C hT dX6_cut_244 ?_
                        refine r_iconst (pc := 247) C (v := 1) dX6_cut_247 (by decide) ?_
                        refine r_iadd (pc := 248) C dX6_cut_248 ?_
                        rw [show (up (up (up (up (up (up (up (ρ) 87 n (nI i)) 89 n (nI k)) 90 n (nI (plN (τ 68 i) k))) 88 n (gwM ρ i (plN (τ 68 i) k))) 91 n (ρ 70 i)) 92 n (-1)) 60 38 (ρ 60 38 - gwM ρ i (plN (τ 68 i) k))) 60 26 + 1 = nI (n + 1) by rw [show (up (up (up (up (up (up (up (ρ) 87 n (nI i)) 89 n (nI k)) 90 n (nI (plN (τ 68 i) k))) 88 n (gwM ρ i (plN (τ 68 i) k))) 91 n (ρ 70 i)) 92 n (-1)) 60 38 (ρ 60 38 - gwM ρ i (plN (τ 68 i) k))) 60 26 = ρ 60 26 from rfl, h26]; exact nI_1 n]
                        refine pX6_118 (pc := 249) C hT dX6_cut_249 ?_
                        refine V_c (S2 := (T, ad, cO D ad (cgM τ ng i (k + 1)))) (congrArg (fun z => (T, ad, cO D ad z)) ?_) rfl ?_
                        · rw [cgM, iF_t hpos, ← hρ, ← hn]; rfl
                        refine r_iinc4 (pc := 252) C dX6_cut_252 hk ?_
                        refine r_goto (pc := 255) C (tgt := 113) dX6_cut_255 (by decide) ?_
                        exact ih (k + 1) (by omega) (by omega)
                exact loop2 13 0 (by omega) (by omega)
              · have hno : ¬ (cd2 (0 ≤ (nI i) ∧ (nI i) < nI nr) ((σ 69 i = 0 ∨ σ 69 i = 2) ∧ ng + N ≤ 80)) = 0 := cd2_f (by assumption)
                refine r_iconst (pc := 93) C (v := 0) dX6_cut_93 (by decide) ?_
                exact r_iret C rfl dX6_cut_94 (by first | exact ⟨fun q => absurd q hno, fun _ => ⟨rfl, rfl⟩⟩ | exact ⟨fun _ => ⟨rfl, rfl⟩, fun q => absurd rfl q⟩) (by decide) (by decide)
            · refine r_iconst (pc := 82) C (v := 1) dX6_cut_82 (by decide) ?_
              refine r_goto (pc := 83) C (tgt := 87) dX6_cut_83 (by decide) ?_
              refine kX6_124 (pc := 87) C (ask2 l D _ _ _ hT (0 ≤ (nI i) ∧ (nI i) < nI nr) ((σ 69 i = 0 ∨ σ 69 i = 2) ∧ ng + N ≤ 80) (rfl) (fun hP0 => by first | exact absurd hP0 c_49 | (refine (bI_f ?_).symm; intro h; exact (Or.elim h.1 (fun g => c_58 g) (fun g => c_68 g))) | (refine (bI_f ?_).symm; intro h; exact absurd c_79 (Int32.not_lt.mpr ((nI_leI (a := ng + N) (b := 80) (by omega) (by decide)).mpr h.2))) | (refine (bI_t ?_).symm; refine ⟨Or.inl ?_, ?_⟩; exact c_58; exact ((nI_leI (a := ng + N) (b := 80) (by omega) (by decide)).mp (Int32.not_lt.mp c_79))) | (refine (bI_t ?_).symm; refine ⟨Or.inr ?_, ?_⟩; exact c_68; exact ((nI_leI (a := ng + N) (b := 80) (by omega) (by decide)).mp (Int32.not_lt.mp c_79))))) (hT.f (by decide)) rfl dX6_cut_87 (Nat.le_of_ble_eq_true rfl) (by decide) ?_
              rintro _ _ ⟨rfl, rfl⟩
              refine r_if_ne_b (pc := 90) C (tgt := 95) dX6_cut_90 (by decide) (fun c_90 => ?_) (fun c_90 => ?_)
              · have hok : (cd2 (0 ≤ (nI i) ∧ (nI i) < nI nr) ((σ 69 i = 0 ∨ σ 69 i = 2) ∧ ng + N ≤ 80)) = 0 := cd2_t c_90
                rw [hok]
                obtain ⟨τ, hτ⟩ : ∃ τ, up σ 60 0 0 = τ := ⟨_, rfl⟩
                rw [hτ]
                obtain ⟨hm1, hm3, hm26, hm18, hnp, hnr, hng, hnb5, hb, hsc, hlc, hpa, hro, hof, hte⟩ := (hτ ▸ ML_up 0 hS : ML nr ng np nb τ)
                obtain ⟨hP, hQ⟩ := c_90
                have hle : ∀ k, k ≤ 12 → ng + pcN (τ 68 i) k ≤ 80 := fun k hk => by
                  have h9 : τ 68 i = σ 68 i := by rw [← hτ]; rfl
                  have h8 := pcN_mono (σ 68 i) (a := k) 12 hk
                  rw [← hN] at h8
                  rw [h9]
                  have h7 := hQ.2
                  omega
                refine r_aload0 (pc := 95) C dX6_cut_95 ?_
                refine r_dup (pc := 96) C dX6_cut_96 rfl ?_
                refine gX6_191 (pc := 97) C hT dX6_cut_97 ?_
                refine r_aload0 (pc := 100) C dX6_cut_100 ?_
                refine gX6_16 (pc := 101) C hT dX6_cut_101 ?_
                refine r_iload1 (pc := 104) C dX6_cut_104 ?_
                refine a405 (pc := 105) C hT rfl (by omega) dX6_cut_105 ?_
                refine r_iadd (pc := 106) C dX6_cut_106 ?_
                refine pX6_191 (pc := 107) C hT dX6_cut_107 ?_
                refine r_iconst (pc := 110) C (v := 0) dX6_cut_110 (by decide) ?_
                refine r_istore4 (pc := 111) C dX6_cut_111 ?_
                have loop2 : ∀ (z k : Nat), k ≤ 12 → 12 < k + z → V D A 5 (T, ad, cO D ad ((cgM τ ng i k))) p l e (RM 7 0 0) s m args below meth c 0 0 (vx_MQ below (va_Qi (fun r S1 => ((0 : Int32) = 0 → r = nI (N) ∧ S1 = (T, ad, cO D ad (cutM τ ng i))) ∧ (¬ (0 : Int32) = 0 → r = 0 ∧ S1 = (T, ad, cO D ad (τ)))) (PoB D A) A) (XCs D (T, ad, cO D ad σ) A (nX)) args s 0 0 A) 113 [some (.ref (ad 400)), some (.int (nI i)), some (.int (bI (0 ≤ nI i ∧ nI i < nI nr))), some (.int (nI N)), some (.int (nI k))] [] := by
                  intro z
                  induction z with
                  | zero => intro k h1 h2; omega
                  | succ z ih =>
                    intro k h1 h2
                    have hk : nI k + 1 = nI (k + 1) := nI_1 k
                    refine r_iload4 (pc := 113) C dX6_cut_113 ?_
                    refine r_bipush (pc := 115) C (v := nI 12) dX6_cut_115 (by decide) ?_
                    refine r_icmp_geN (pc := 117) C (tgt := 258) dX6_cut_117 (by decide) (by omega) (by omega) (fun c_117 => ?_) (fun c_117 => ?_)
                    · have hk12 : k = 12 := by omega
                      rw [hk12]
                      refine r_aload0 (pc := 258) C dX6_cut_258 ?_
                      refine gX6_28 (pc := 259) C hT dX6_cut_259 ?_
                      refine r_iload1 (pc := 262) C dX6_cut_262 ?_
                      refine r_iconst (pc := 263) C (v := 3) dX6_cut_263 (by decide) ?_
                      refine b409 (pc := 264) C hT rfl (by omega) dX6_cut_264 ?_
                      refine r_aload0 (pc := 265) C dX6_cut_265 ?_
                      refine r_iload1 (pc := 266) C dX6_cut_266 ?_
                      refine kX6_164 (pc := 267) C (c_X6_ends l D _ _ _ hT _) (hT.f (by decide)) rfl dX6_cut_267 (Nat.le_of_ble_eq_true rfl) (by decide) ?_
                      rintro _ rfl
                      refine r_iload3 (pc := 270) C dX6_cut_270 ?_
                      exact r_iret C rfl dX6_cut_271 (⟨fun _ => ⟨rfl, rfl⟩, fun q => absurd rfl q⟩) (by decide) (by decide)
                    · have h68 : (cgM τ ng i k) 68 i = τ 68 i := by rw [cgM_r τ ng i (by decide) (by decide) k]
                      have h26 := cgM_26 (g := ng) (σ := τ) (i := i) hm26 k
                      obtain ⟨ρ, hρ⟩ : ∃ y, y = (cgM τ ng i k) := ⟨_, rfl⟩
                      rw [← hρ] at h68 h26 ⊢
                      refine r_aload0 (pc := 120) C dX6_cut_120 ?_
                      refine r_iload1 (pc := 121) C dX6_cut_121 ?_
                      refine r_iload4 (pc := 122) C dX6_cut_122 ?_
                      refine kX6_185 (pc := 124) C (c_X6_rowAt l D _ _ _ hT (by omega) (by omega)) (hT.f (by decide)) rfl dX6_cut_124 (Nat.le_of_ble_eq_true rfl) (by decide) ?_
                      rintro r124 _ ⟨hr9, rfl⟩
                      have hr8 : r124 = nI (plN (τ 68 i) k) := hr9.trans (congrArg (fun z => nI (plN z k)) h68)
                      subst hr8
                      refine r_if_le (pc := 127) C (tgt := 252) dX6_cut_127 (by decide) (fun c_127 => ?_) (fun c_127 => ?_)
                      · have hp0 : ¬ 0 < plN (τ 68 i) k := (plN_pos (by omega)).mp c_127
                        rw [hρ, show cgM τ ng i k = cgM τ ng i (k + 1) from (iF_f hp0).symm]
                        refine r_iinc4 (pc := 252) C dX6_cut_252 hk ?_
                        refine r_goto (pc := 255) C (tgt := 113) dX6_cut_255 (by decide) ?_
                        exact ih (k + 1) (by omega) (by omega)
                      · have hpos : 0 < plN (τ 68 i) k := Classical.not_not.mp (fun z => c_127 ((plN_pos (by omega)).mpr z))
                        obtain ⟨n, hn⟩ : ∃ y, y = ng + pcN (τ 68 i) k := ⟨_, rfl⟩
                        have hpc1 : pcN (τ 68 i) (k + 1) = pcN (τ 68 i) k + 1 := iF_t hpos
                        have hpm := hle (k + 1) (by omega)
                        have hn80 : n < 80 := by omega
                        rw [← hn] at h26
                        refine r_aload0 (pc := 130) C dX6_cut_130 ?_
                        refine gX6_75 (pc := 131) C hT dX6_cut_131 ?_
                        refine r_aload0 (pc := 134) C dX6_cut_134 ?_
                        refine gX6_118 (pc := 135) C hT dX6_cut_135 ?_
                        refine r_iload1 (pc := 138) C dX6_cut_138 ?_
                        refine b427 (pc := 139) C hT h26 (by omega) dX6_cut_139 ?_
                        refine r_aload0 (pc := 140) C dX6_cut_140 ?_
                        refine gX6_81 (pc := 141) C hT dX6_cut_141 ?_
                        refine r_aload0 (pc := 144) C dX6_cut_144 ?_
                        refine gX6_118 (pc := 145) C hT dX6_cut_145 ?_
                        refine r_iload4 (pc := 148) C dX6_cut_148 ?_
                        refine b429 (pc := 150) C hT h26 (by omega) dX6_cut_150 ?_
                        refine r_aload0 (pc := 151) C dX6_cut_151 ?_
                        refine gX6_84 (pc := 152) C hT dX6_cut_152 ?_
                        refine r_aload0 (pc := 155) C dX6_cut_155 ?_
                        refine gX6_118 (pc := 156) C hT dX6_cut_156 ?_
                        refine r_aload0 (pc := 159) C dX6_cut_159 ?_
                        refine r_iload1 (pc := 160) C dX6_cut_160 ?_
                        refine r_iload4 (pc := 161) C dX6_cut_161 ?_
                        refine kX6_185 (pc := 163) C (c_X6_rowAt l D _ _ _ hT (by omega) (by omega)) (hT.f (by decide)) rfl dX6_cut_163 (Nat.le_of_ble_eq_true rfl) (by decide) ?_
                        rintro r163 _ ⟨hr9, rfl⟩
                        have hr8 : r163 = nI (plN (τ 68 i) k) := hr9.trans (congrArg (fun z => nI (plN z k)) h68)
                        subst hr8
                        refine b430 (pc := 166) C hT h26 (by omega) dX6_cut_166 ?_
                        refine r_aload0 (pc := 167) C dX6_cut_167 ?_
                        refine gX6_78 (pc := 168) C hT dX6_cut_168 ?_
                        refine r_aload0 (pc := 171) C dX6_cut_171 ?_
                        refine gX6_118 (pc := 172) C hT dX6_cut_172 ?_
                        refine r_aload0 (pc := 175) C dX6_cut_175 ?_
                        refine r_iload1 (pc := 176) C dX6_cut_176 ?_
                        refine r_iload4 (pc := 177) C dX6_cut_177 ?_
                        refine kX6_185 (pc := 179) C (c_X6_rowAt l D _ _ _ hT (by omega) (by omega)) (hT.f (by decide)) rfl dX6_cut_179 (Nat.le_of_ble_eq_true rfl) (by decide) ?_
                        rintro r179 _ ⟨hr9, rfl⟩
                        have hr8 : r179 = nI (plN (τ 68 i) k) := hr9.trans (congrArg (fun z => nI (plN z k)) h68)
                        subst hr8
                        refine r_aload0 (pc := 182) C dX6_cut_182 ?_
                        refine gX6_16 (pc := 183) C hT dX6_cut_183 ?_
                        refine r_iload1 (pc := 186) C dX6_cut_186 ?_
                        refine a405 (pc := 187) C hT rfl (by omega) dX6_cut_187 ?_
                        refine r_imul (pc := 188) C dX6_cut_188 ?_
                        refine r_bipush (pc := 189) C (v := 12) dX6_cut_189 (by decide) ?_
                        refine r_idiv (pc := 191) C dX6_cut_191 (by decide) ?_
                        refine r_bipush (pc := 192) C (v := 60) dX6_cut_192 (by decide) ?_
                        refine r_imul (pc := 194) C dX6_cut_194 ?_
                        refine r_bipush (pc := 195) C (v := 100) dX6_cut_195 (by decide) ?_
                        refine r_idiv (pc := 197) C dX6_cut_197 (by decide) ?_
                        refine V_st (st2 := [.int (gwM ρ i (plN (τ 68 i) k)), .int ((up (up (up (ρ) 87 n (nI i)) 89 n (nI k)) 90 n (nI (plN (τ 68 i) k))) 60 26), .ref (ad 428)]) rfl ?_
                        refine b428 (pc := 198) C hT h26 (by omega) dX6_cut_198 ?_
                        refine r_aload0 (pc := 199) C dX6_cut_199 ?_
                        refine gX6_87 (pc := 200) C hT dX6_cut_200 ?_
                        refine r_aload0 (pc := 203) C dX6_cut_203 ?_
                        refine gX6_118 (pc := 204) C hT dX6_cut_204 ?_
                        refine r_aload0 (pc := 207) C dX6_cut_207 ?_
                        refine gX6_31 (pc := 208) C hT dX6_cut_208 ?_
                        refine r_iload1 (pc := 211) C dX6_cut_211 ?_
                        refine a410 (pc := 212) C hT rfl (by omega) dX6_cut_212 ?_
                        refine V_st (st2 := [.int (ρ 70 i), .int ((up (up (up (up (ρ) 87 n (nI i)) 89 n (nI k)) 90 n (nI (plN (τ 68 i) k))) 88 n (gwM ρ i (plN (τ 68 i) k))) 60 26), .ref (ad 431)]) rfl ?_
                        refine b431 (pc := 213) C hT h26 (by omega) dX6_cut_213 ?_
                        refine r_aload0 (pc := 214) C dX6_cut_214 ?_
                        refine gX6_90 (pc := 215) C hT dX6_cut_215 ?_
                        refine r_aload0 (pc := 218) C dX6_cut_218 ?_
                        refine gX6_118 (pc := 219) C hT dX6_cut_219 ?_
                        refine r_iconst (pc := 222) C (v := (-1)) dX6_cut_222 (by decide) ?_
                        refine b432 (pc := 223) C hT h26 (by omega) dX6_cut_223 ?_
                        refine r_aload0 (pc := 224) C dX6_cut_224 ?_
                        refine r_dup (pc := 225) C dX6_cut_225 rfl ?_
                        refine gX6_191 (pc := 226) C hT dX6_cut_226 ?_
                        refine r_aload0 (pc := 229) C dX6_cut_229 ?_
                        refine gX6_78 (pc := 230) C hT dX6_cut_230 ?_
                        refine r_aload0 (pc := 233) C dX6_cut_233 ?_
                        refine gX6_118 (pc := 234) C hT dX6_cut_234 ?_
                        refine a428 (pc := 237) C hT h26 (by omega) dX6_cut_237 ?_
                        rw [show (up (up (up (up (up (up (ρ) 87 n (nI i)) 89 n (nI k)) 90 n (nI (plN (τ 68 i) k))) 88 n (gwM ρ i (plN (τ 68 i) k))) 91 n (ρ 70 i)) 92 n (-1)) 88 n = gwM ρ i (plN (τ 68 i) k) by rw [up_ne (by decide), up_ne (by decide), up_self]]
                        refine r_isub (pc := 238) C dX6_cut_238 ?_
                        refine V_st (st2 := [.int (ρ 60 38 - gwM ρ i (plN (τ 68 i) k)), .ref (ad 400)]) rfl ?_
                        refine pX6_191 (pc := 239) C hT dX6_cut_239 ?_
                        refine r_aload0 (pc := 242) C dX6_cut_242 ?_
                        refine r_dup (pc := 243) C dX6_cut_243 rfl ?_
                        refine gX6_118 (pc := 244) C hT dX6_cut_244 ?_
                        refine r_iconst (pc := 247) C (v := 1) dX6_cut_247 (by decide) ?_
                        refine r_iadd (pc := 248) C dX6_cut_248 ?_
                        rw [show (up (up (up (up (up (up (up (ρ) 87 n (nI i)) 89 n (nI k)) 90 n (nI (plN (τ 68 i) k))) 88 n (gwM ρ i (plN (τ 68 i) k))) 91 n (ρ 70 i)) 92 n (-1)) 60 38 (ρ 60 38 - gwM ρ i (plN (τ 68 i) k))) 60 26 + 1 = nI (n + 1) by rw [show (up (up (up (up (up (up (up (ρ) 87 n (nI i)) 89 n (nI k)) 90 n (nI (plN (τ 68 i) k))) 88 n (gwM ρ i (plN (τ 68 i) k))) 91 n (ρ 70 i)) 92 n (-1)) 60 38 (ρ 60 38 - gwM ρ i (plN (τ 68 i) k))) 60 26 = ρ 60 26 from rfl, h26]; exact nI_1 n]
                        refine pX6_118 (pc := 249) C hT dX6_cut_249 ?_
                        refine V_c (S2 := (T, ad, cO D ad (cgM τ ng i (k + 1)))) (congrArg (fun z => (T, ad, cO D ad z)) ?_) rfl ?_
                        · rw [cgM, iF_t hpos, ← hρ, ← hn]; rfl
                        refine r_iinc4 (pc := 252) C dX6_cut_252 hk ?_
                        refine r_goto (pc := 255) C (tgt := 113) dX6_cut_255 (by decide) ?_
                        exact ih (k + 1) (by omega) (by omega)
                exact loop2 13 0 (by omega) (by omega)
              · have hno : ¬ (cd2 (0 ≤ (nI i) ∧ (nI i) < nI nr) ((σ 69 i = 0 ∨ σ 69 i = 2) ∧ ng + N ≤ 80)) = 0 := cd2_f (by assumption)
                refine r_iconst (pc := 93) C (v := 0) dX6_cut_93 (by decide) ?_
                exact r_iret C rfl dX6_cut_94 (by first | exact ⟨fun q => absurd q hno, fun _ => ⟨rfl, rfl⟩⟩ | exact ⟨fun _ => ⟨rfl, rfl⟩, fun q => absurd rfl q⟩) (by decide) (by decide)
    refine r_aload0 (pc := 0) C dX6_cut_0 ?_
    refine r_iload1 (pc := 1) C dX6_cut_1 ?_
    refine kX6_131 (pc := 2) C (c_X6_isStone l D _ _ _ hT _ hm3) (hT.f (by decide)) rfl dX6_cut_2 (Nat.le_of_ble_eq_true rfl) (by decide) ?_
    rintro _ _ ⟨rfl, rfl⟩
    refine r_istore2 (pc := 5) C dX6_cut_5 ?_
    refine r_iconst (pc := 6) C (v := 0) dX6_cut_6 (by decide) ?_
    refine r_istore3 (pc := 7) C dX6_cut_7 ?_
    refine r_iconst (pc := 8) C (v := 0) dX6_cut_8 (by decide) ?_
    refine r_istore4 (pc := 9) C dX6_cut_9 ?_
    have loop1 : ∀ (z k : Nat), k ≤ 12 → 12 < k + z → V D A 5 (T, ad, cO D ad σ) p l e (RM 7 0 0) s m args below meth c 0 0 (vx_MQ below (va_Qi (fun r S1 => ((cd2 (0 ≤ (nI i) ∧ (nI i) < nI nr) ((σ 69 i = 0 ∨ σ 69 i = 2) ∧ ng + N ≤ 80)) = 0 → r = nI (N) ∧ S1 = (T, ad, cO D ad (cutM (up σ 60 0 0) ng i))) ∧ (¬ (cd2 (0 ≤ (nI i) ∧ (nI i) < nI nr) ((σ 69 i = 0 ∨ σ 69 i = 2) ∧ ng + N ≤ 80)) = 0 → r = 0 ∧ S1 = (T, ad, cO D ad (up σ 60 0 (cd2 (0 ≤ (nI i) ∧ (nI i) < nI nr) ((σ 69 i = 0 ∨ σ 69 i = 2) ∧ ng + N ≤ 80)))))) (PoB D A) A) (XCs D (T, ad, cO D ad σ) A (nX)) args s 0 0 A) 11 [some (.ref (ad 400)), some (.int (nI i)), some (.int (bI (0 ≤ nI i ∧ nI i < nI nr))), some (.int (nI (pcN (σ 68 i) k))), some (.int (nI k))] [] := by
      intro z
      induction z with
      | zero => intro k h1 h2; omega
      | succ z ih =>
        intro k h1 h2
        have hk : nI k + 1 = nI (k + 1) := nI_1 k
        refine r_iload4 (pc := 11) C dX6_cut_11 ?_
        refine r_bipush (pc := 13) C (v := nI 12) dX6_cut_13 (by decide) ?_
        refine r_icmp_geN (pc := 15) C (tgt := 46) dX6_cut_15 (by decide) (by omega) (by omega) (fun c_15 => ?_) (fun c_15 => ?_)
        · first
          | exact absurd h_x c_19
          | (rw [show k = 12 by omega, ← hN]; exact J)
        · refine r_iload2 (pc := 18) C dX6_cut_18 ?_
          refine r_if_eq_b (pc := 19) C (tgt := 46) dX6_cut_19 (by decide) (fun c_19 => ?_) (fun c_19 => ?_)
          · first
            | exact absurd h_x c_19
            | (rw [show k = 12 by omega, ← hN]; exact J)
          · refine r_iload3 (pc := 22) C dX6_cut_22 ?_
            refine r_aload0 (pc := 23) C dX6_cut_23 ?_
            refine r_iload1 (pc := 24) C dX6_cut_24 ?_
            refine r_iload4 (pc := 25) C dX6_cut_25 ?_
            refine kX6_185 (pc := 27) C (c_X6_rowAt l D _ _ _ hT (by omega) (by omega)) (hT.f (by decide)) rfl dX6_cut_27 (Nat.le_of_ble_eq_true rfl) (by decide) ?_
            rintro _ _ ⟨rfl, rfl⟩
            refine r_if_le (pc := 30) C (tgt := 37) dX6_cut_30 (by decide) (fun c_30 => ?_) (fun c_30 => ?_)
            · refine r_iconst (pc := 37) C (v := 0) dX6_cut_37 (by decide) ?_
              refine r_iadd (pc := 38) C dX6_cut_38 ?_
              first | rw [show nI (pcN (σ 68 i) k) + 1 = nI (pcN (σ 68 i) k + 1) from nI_1 _] | rw [Int32.add_zero]
              refine r_istore3 (pc := 39) C dX6_cut_39 ?_
              refine r_iinc4 (pc := 40) C dX6_cut_40 hk ?_
              refine r_goto (pc := 43) C (tgt := 11) dX6_cut_43 (by decide) ?_
              first
              | (have e1 : pcN (σ 68 i) (k + 1) = pcN (σ 68 i) k + 1 := iF_t (Classical.not_not.mp (fun z => c_30 ((plN_pos (by omega)).mpr z)))
                 have h3 := ih (k + 1); rw [e1] at h3; exact h3 (by omega) (by omega))
              | (have e1 : pcN (σ 68 i) (k + 1) = pcN (σ 68 i) k := iF_f ((plN_pos (by omega)).mp c_30)
                 have h3 := ih (k + 1); rw [e1] at h3; exact h3 (by omega) (by omega))
            · refine r_iconst (pc := 33) C (v := 1) dX6_cut_33 (by decide) ?_
              refine r_goto (pc := 34) C (tgt := 38) dX6_cut_34 (by decide) ?_
              refine r_iadd (pc := 38) C dX6_cut_38 ?_
              first | rw [show nI (pcN (σ 68 i) k) + 1 = nI (pcN (σ 68 i) k + 1) from nI_1 _] | rw [Int32.add_zero]
              refine r_istore3 (pc := 39) C dX6_cut_39 ?_
              refine r_iinc4 (pc := 40) C dX6_cut_40 hk ?_
              refine r_goto (pc := 43) C (tgt := 11) dX6_cut_43 (by decide) ?_
              first
              | (have e1 : pcN (σ 68 i) (k + 1) = pcN (σ 68 i) k + 1 := iF_t (Classical.not_not.mp (fun z => c_30 ((plN_pos (by omega)).mpr z)))
                 have h3 := ih (k + 1); rw [e1] at h3; exact h3 (by omega) (by omega))
              | (have e1 : pcN (σ 68 i) (k + 1) = pcN (σ 68 i) k := iF_f ((plN_pos (by omega)).mp c_30)
                 have h3 := ih (k + 1); rw [e1] at h3; exact h3 (by omega) (by omega))
    exact loop1 13 0 (by omega) (by omega)
  · refine r_aload0 (pc := 0) C dX6_cut_0 ?_
    refine r_iload1 (pc := 1) C dX6_cut_1 ?_
    refine kX6_131 (pc := 2) C (c_X6_isStone l D _ _ _ hT _ hm3) (hT.f (by decide)) rfl dX6_cut_2 (Nat.le_of_ble_eq_true rfl) (by decide) ?_
    rintro _ _ ⟨rfl, rfl⟩
    refine r_istore2 (pc := 5) C dX6_cut_5 ?_
    refine r_iconst (pc := 6) C (v := 0) dX6_cut_6 (by decide) ?_
    refine r_istore3 (pc := 7) C dX6_cut_7 ?_
    refine r_iconst (pc := 8) C (v := 0) dX6_cut_8 (by decide) ?_
    refine r_istore4 (pc := 9) C dX6_cut_9 ?_
    refine r_iload4 (pc := 11) C dX6_cut_11 ?_
    refine r_bipush (pc := 13) C (v := 12) dX6_cut_13 (by decide) ?_
    refine r_icmp_ge (pc := 15) C (tgt := 46) dX6_cut_15 (by decide) (fun c_15 => ?_) (fun c_15 => ?_)
    · refine r_aload0 (pc := 46) C dX6_cut_46 ?_
      refine r_iload2 (pc := 47) C dX6_cut_47 ?_
      refine r_iload2 (pc := 48) C dX6_cut_48 ?_
      refine r_if_eq_b (pc := 49) C (tgt := 86) dX6_cut_49 (by decide) (fun c_49 => ?_) (fun c_49 => ?_)
      · refine r_iconst (pc := 86) C (v := 0) dX6_cut_86 (by decide) ?_
        refine kX6_124 (pc := 87) C (ask2 l D _ _ _ hT (0 ≤ x ∧ x < nI nr) ((σ 69 x.toNatClampNeg = 0 ∨ σ 69 x.toNatClampNeg = 2) ∧ ng + N ≤ 80) (rfl) (fun hP0 => absurd hP0 h_x)) (hT.f (by decide)) rfl dX6_cut_87 (Nat.le_of_ble_eq_true rfl) (by decide) ?_
        rintro _ _ ⟨rfl, rfl⟩
        refine r_if_ne_b (pc := 90) C (tgt := 95) dX6_cut_90 (by decide) (fun c_90 => ?_) (fun c_90 => ?_)
        · first | exact absurd c_90.1 h_x | exact absurd c_90.1.2 h_x | exact absurd c_90.1.1 h_x | exact absurd (And.intro c_90.1.2.1 (le3 c_90.1.2.2)) h_x | (exfalso; grind)
        · have hno : ¬ (cd2 (0 ≤ x ∧ x < nI nr) ((σ 69 x.toNatClampNeg = 0 ∨ σ 69 x.toNatClampNeg = 2) ∧ ng + N ≤ 80)) = 0 := cd2_f (by assumption)
          refine r_iconst (pc := 93) C (v := 0) dX6_cut_93 (by decide) ?_
          exact r_iret C rfl dX6_cut_94 (by first | exact ⟨fun q => absurd q hno, fun _ => ⟨rfl, rfl⟩⟩ | exact ⟨fun _ => ⟨rfl, rfl⟩, fun q => absurd rfl q⟩) (by decide) (by decide)
      · exact absurd c_49 h_x
    · refine r_iload2 (pc := 18) C dX6_cut_18 ?_
      refine r_if_eq_b (pc := 19) C (tgt := 46) dX6_cut_19 (by decide) (fun c_19 => ?_) (fun c_19 => ?_)
      · refine r_aload0 (pc := 46) C dX6_cut_46 ?_
        refine r_iload2 (pc := 47) C dX6_cut_47 ?_
        refine r_iload2 (pc := 48) C dX6_cut_48 ?_
        refine r_if_eq_b (pc := 49) C (tgt := 86) dX6_cut_49 (by decide) (fun c_49 => ?_) (fun c_49 => ?_)
        · refine r_iconst (pc := 86) C (v := 0) dX6_cut_86 (by decide) ?_
          refine kX6_124 (pc := 87) C (ask2 l D _ _ _ hT (0 ≤ x ∧ x < nI nr) ((σ 69 x.toNatClampNeg = 0 ∨ σ 69 x.toNatClampNeg = 2) ∧ ng + N ≤ 80) (rfl) (fun hP0 => absurd hP0 h_x)) (hT.f (by decide)) rfl dX6_cut_87 (Nat.le_of_ble_eq_true rfl) (by decide) ?_
          rintro _ _ ⟨rfl, rfl⟩
          refine r_if_ne_b (pc := 90) C (tgt := 95) dX6_cut_90 (by decide) (fun c_90 => ?_) (fun c_90 => ?_)
          · first | exact absurd c_90.1 h_x | exact absurd c_90.1.2 h_x | exact absurd c_90.1.1 h_x | exact absurd (And.intro c_90.1.2.1 (le3 c_90.1.2.2)) h_x | (exfalso; grind)
          · have hno : ¬ (cd2 (0 ≤ x ∧ x < nI nr) ((σ 69 x.toNatClampNeg = 0 ∨ σ 69 x.toNatClampNeg = 2) ∧ ng + N ≤ 80)) = 0 := cd2_f (by assumption)
            refine r_iconst (pc := 93) C (v := 0) dX6_cut_93 (by decide) ?_
            exact r_iret C rfl dX6_cut_94 (by first | exact ⟨fun q => absurd q hno, fun _ => ⟨rfl, rfl⟩⟩ | exact ⟨fun _ => ⟨rfl, rfl⟩, fun q => absurd rfl q⟩) (by decide) (by decide)
        · exact absurd c_49 h_x
      · exact absurd c_19 h_x


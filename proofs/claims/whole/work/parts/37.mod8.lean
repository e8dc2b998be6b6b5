section ZROWS
variable {D : Gt} {A : Nat → Prop} {own : String} {cc : ByteArray} {n : Nat} {ret : Option FieldType} {tb : List ExceptionTableEntry} {p : Program} {l : Launch} {e : Env} {R : Room} {s : State} {m : MethodId} {args : Array Value} {below : List Frame} {meth : Method} {c : Code} {cells slots : Nat} {Q : State → Prop} {pc : Nat} {L : List (Option Value)} {st : List Value} {T : List Nat} {ad : Nat → Nat} {σ : Mm} {nr ng : Nat}
theorem b420 (C : CX D A own cc n ret tb p s m args meth c) (hT : TG nr ng T) {k : Nat} {x y : Int32} (hy : y = 0 ∨ y = 1) (hx : x = nI k) (hk : k < 5) (d : decode cc pc = .ok (.bastore, 1)) (kk : V D A n (T, ad, cO D ad (up σ 80 k y)) p l e R s m args below meth c cells slots Q (pc + 1) L st) : V D A n (T, ad, cO D ad σ) p l e R s m args below meth c cells slots Q pc L (.int y :: .int x :: .ref (ad 420) :: st) := r_zast C hy (hT.f (k := 420) (by decide)) (N := 5) (h := σ 80) rfl hx hk (by decide) (fun q => u_420 q) d kk
end ZROWS
noncomputable def twM (σ : Mm) : Nat → Int32
  | 0 => -1
  | k + 1 => iF ((¬ σ 85 k = -1 ∧ σ 60 24 ≤ σ 85 k) ∧ (twM σ k = -1 ∨ σ 85 (twM σ k).toNatClampNeg < σ 85 k ∨ (σ 85 k = σ 85 (twM σ k).toNatClampNeg ∧ σ 82 (twM σ k).toNatClampNeg < σ 82 k))) (nI k) (twM σ k)
theorem twM_ix (σ : Mm) : ∀ k, twM σ k = -1 ∨ ∃ j, j < k ∧ twM σ k = nI j := ix_lt rfl (fun _ => iF_or)
noncomputable def pyM (σ : Mm) (w : Int32) : Nat → Int32
  | 0 => σ 60 24
  | k + 1 => iF (¬ nI k = w ∧ pyM σ w k < σ 85 k) (σ 85 k) (pyM σ w k)
noncomputable def clM (σ : Mm) (i : Nat) : Mm := iF (twM σ 5 = -1) (up σ 60 23 (-1)) (up (up (up (up σ 60 23 (-1)) 72 i (pyM σ (twM σ 5) 5)) 70 i (twM σ 5)) 69 i 2)
noncomputable def tkM (σ : Mm) (x b t : Int32) : Nat → Mm
  | 0 => σ
  | k + 1 => iF (tkM σ x b t k 69 k = 1 ∧ tkM σ x b t k 71 k = x) (up (up (up (tkM σ x b t k) 69 k (iF (t = 0) 0 2)) 70 k (iF (t = 0) (-1) b)) 71 k (-1)) (tkM σ x b t k)
theorem tkM_r (σ : Mm) (x b t : Int32) {r : Nat} (h1 : r ≠ 69) (h2 : r ≠ 70) (h3 : r ≠ 71) : ∀ k, tkM σ x b t k r = σ r
  | 0 => rfl
  | k + 1 => iF_row (by rw [up_ne h3, up_ne h2, up_ne h1]; exact tkM_r σ x b t h1 h2 h3 k) (tkM_r σ x b t h1 h2 h3 k)
set_option maxRecDepth 100000 in
set_option maxHeartbeats 400000 in
theorem c_X6_close (l : Launch) (D : Gt) (T : List Nat) (ad : Nat → Nat) (σ : Mm) {nr ng : Nat} (hT : TG nr ng T) {np nb : Nat} (hM : ML nr ng np nb σ)  : KI D l yX6_close (uws yX6_close cX6_close 5 (some .int)) (RM 7 0 0) [.ref (ad 400)] (T, ad, cO D ad σ) (fun r S1 => ((cd1 (¬ σ 60 23 = -1)) = 0 → r = twM (up σ 60 0 0) 5 ∧ S1 = (T, ad, cO D ad (clM (up σ 60 0 0) ((up σ 60 0 0) 60 23).toNatClampNeg))) ∧ (¬ (cd1 (¬ σ 60 23 = -1)) = 0 → r = 0 ∧ S1 = (T, ad, cO D ad (up σ 60 0 (cd1 (¬ σ 60 23 = -1)))))) (nX) 0 0 := by
  refine KI_of (own := RX6) (L0 := [some (.ref (ad 400)), none, none, none, none]) (by decide +kernel) rfl (catc rfl cat0) (Nat.le_of_ble_eq_true rfl) rfl ?_
  intro p e s m args below meth c A hnm C
  have hS := hM
  obtain ⟨hm1, hm3, hm26, hm18, hnp, hnr, hng, hnb5, hb, hsc, hlc, hpa, hro, hof, hte⟩ := hM
  refine r_aload0 (pc := 0) C dX6_close_0 ?_
  refine r_aload0 (pc := 1) C dX6_close_1 ?_
  refine gX6_68 (pc := 2) C hT dX6_close_2 ?_
  refine r_iconst (pc := 5) C (v := (-1)) dX6_close_5 (by decide) ?_
  refine r_icmp_eq (pc := 6) C (tgt := 13) dX6_close_6 (by decide) (fun c_6 => ?_) (fun c_6 => ?_)
  · refine r_iconst (pc := 13) C (v := 0) dX6_close_13 (by decide) ?_
    refine kX6_148 (pc := 14) C (ask1 l D _ _ _ hT (¬ σ 60 23 = -1) (by first | exact (bI_t c_6).symm | exact (bI_f (fun h => h c_6)).symm)) (hT.f (by decide)) rfl dX6_close_14 (Nat.le_of_ble_eq_true rfl) (by decide) ?_
    rintro _ _ ⟨rfl, rfl⟩
    refine r_if_ne_b (pc := 17) C (tgt := 22) dX6_close_17 (by decide) (fun c_17 => ?_) (fun c_17 => ?_)
    · have hok : (cd1 (¬ σ 60 23 = -1)) = 0 := cd1_t c_17
      rw [hok]
      obtain ⟨τ, hτ⟩ : ∃ τ, up σ 60 0 0 = τ := ⟨_, rfl⟩
      rw [hτ]
      obtain ⟨hm1, hm3, hm26, hm18, hnp, hnr, hng, hnb5, hb, hsc, hlc, hpa, hro, hof, hte⟩ := (hτ ▸ ML_up 0 hS : ML nr ng np nb τ)
      have hP := c_17
      obtain ⟨i, hi, hti⟩ := hte.resolve_left (by rw [← hτ]; exact hP)
      rw [show (τ 60 23).toNatClampNeg = i by rw [hti, nI_clamp (by omega)]]
      refine r_iconst (pc := 22) C (v := (-1)) dX6_close_22 (by decide) ?_
      refine r_istore1 (pc := 23) C dX6_close_23 ?_
      refine r_iconst (pc := 24) C (v := 0) dX6_close_24 (by decide) ?_
      refine r_istore2 (pc := 25) C dX6_close_25 ?_
      have loop2 : ∀ (z k : Nat) (hw : ¬ twM τ 5 = -1), k ≤ 5 → 5 < k + z → V D A 5 (T, ad, cO D ad (up τ 60 23 (-1))) p l e (RM 7 0 0) s m args below meth c 0 0 (vx_MQ below (va_Qi (fun r S1 => ((0 : Int32) = 0 → r = twM τ 5 ∧ S1 = (T, ad, cO D ad (clM τ i))) ∧ (¬ (0 : Int32) = 0 → r = 0 ∧ S1 = (T, ad, cO D ad (τ)))) (PoB D A) A) (XCs D (T, ad, cO D ad σ) A (nX)) args s 0 0 A) 151 [some (.ref (ad 400)), some (.int (twM τ 5)), some (.int (nI i)), some (.int (pyM τ (twM τ 5) k)), some (.int (nI k))] [] := by
        intro z
        induction z with
        | zero => intro k hw h1 h2; omega
        | succ z ih =>
          intro k hw h1 h2
          have hk : nI k + 1 = nI (k + 1) := nI_1 k
          refine r_iload4 (pc := 151) C dX6_close_151 ?_
          refine r_iconst (pc := 153) C (v := nI 5) dX6_close_153 (by decide) ?_
          refine r_icmp_geN (pc := 154) C (tgt := 192) dX6_close_154 (by decide) (by omega) (by omega) (fun c_154 => ?_) (fun c_154 => ?_)
          · have hk5 : k = 5 := by omega
            rw [hk5]
            refine r_aload0 (pc := 192) C dX6_close_192 ?_
            refine gX6_37 (pc := 193) C hT dX6_close_193 ?_
            refine r_iload2 (pc := 196) C dX6_close_196 ?_
            refine r_iload3 (pc := 197) C dX6_close_197 ?_
            refine b412 (pc := 198) C hT rfl (by omega) dX6_close_198 ?_
            refine r_aload0 (pc := 199) C dX6_close_199 ?_
            refine gX6_31 (pc := 200) C hT dX6_close_200 ?_
            refine r_iload2 (pc := 203) C dX6_close_203 ?_
            refine r_iload1 (pc := 204) C dX6_close_204 ?_
            refine b410 (pc := 205) C hT rfl (by omega) dX6_close_205 ?_
            refine r_aload0 (pc := 206) C dX6_close_206 ?_
            refine gX6_28 (pc := 207) C hT dX6_close_207 ?_
            refine r_iload2 (pc := 210) C dX6_close_210 ?_
            refine r_iconst (pc := 211) C (v := 2) dX6_close_211 (by decide) ?_
            refine b409 (pc := 212) C hT rfl (by omega) dX6_close_212 ?_
            refine r_iload1 (pc := 213) C dX6_close_213 ?_
            exact r_iret C rfl dX6_close_214 (⟨fun _ => ⟨rfl, by unfold clM; exact congrArg (fun z => (T, ad, cO D ad z)) (iF_f hw).symm⟩, fun q => absurd rfl q⟩) (by decide) (by decide)
          · refine r_iload4 (pc := 157) C dX6_close_157 ?_
            refine r_iload1 (pc := 159) C dX6_close_159 ?_
            refine r_icmp_eq (pc := 160) C (tgt := 184) dX6_close_160 (by decide) (fun c_160 => ?_) (fun c_160 => ?_)
            · refine r_iload3 (pc := 184) C dX6_close_184 ?_
              refine r_istore3 (pc := 185) C dX6_close_185 ?_
              refine r_iinc4 (pc := 186) C dX6_close_186 hk ?_
              refine r_goto (pc := 189) C (tgt := 151) dX6_close_189 (by decide) ?_
              have h3 := ih (k + 1) hw
              first
              | (have e1 : pyM τ (twM τ 5) (k + 1) = τ 85 k := iF_t (And.intro c_160 (Int32.not_le.mp c_171))
                 rw [e1] at h3; exact h3 (by omega) (by omega))
              | (have e1 : pyM τ (twM τ 5) (k + 1) = pyM τ (twM τ 5) k := iF_f (fun h => absurd h.2 (Int32.not_lt.mpr c_171))
                 rw [e1] at h3; exact h3 (by omega) (by omega))
              | (have e1 : pyM τ (twM τ 5) (k + 1) = pyM τ (twM τ 5) k := iF_f (fun h => h.1 c_160)
                 rw [e1] at h3; exact h3 (by omega) (by omega))
            · refine r_aload0 (pc := 163) C dX6_close_163 ?_
              refine gX6_72 (pc := 164) C hT dX6_close_164 ?_
              refine r_iload4 (pc := 167) C dX6_close_167 ?_
              refine a425 (pc := 169) C hT rfl (by omega) dX6_close_169 ?_
              rw [show (up τ 60 23 (-1)) 85 k = τ 85 k from rfl]
              refine r_iload3 (pc := 170) C dX6_close_170 ?_
              refine r_icmp_le (pc := 171) C (tgt := 184) dX6_close_171 (by decide) (fun c_171 => ?_) (fun c_171 => ?_)
              · refine r_iload3 (pc := 184) C dX6_close_184 ?_
                refine r_istore3 (pc := 185) C dX6_close_185 ?_
                refine r_iinc4 (pc := 186) C dX6_close_186 hk ?_
                refine r_goto (pc := 189) C (tgt := 151) dX6_close_189 (by decide) ?_
                have h3 := ih (k + 1) hw
                first
                | (have e1 : pyM τ (twM τ 5) (k + 1) = τ 85 k := iF_t (And.intro c_160 (Int32.not_le.mp c_171))
                   rw [e1] at h3; exact h3 (by omega) (by omega))
                | (have e1 : pyM τ (twM τ 5) (k + 1) = pyM τ (twM τ 5) k := iF_f (fun h => absurd h.2 (Int32.not_lt.mpr c_171))
                   rw [e1] at h3; exact h3 (by omega) (by omega))
                | (have e1 : pyM τ (twM τ 5) (k + 1) = pyM τ (twM τ 5) k := iF_f (fun h => h.1 c_160)
                   rw [e1] at h3; exact h3 (by omega) (by omega))
              · refine r_aload0 (pc := 174) C dX6_close_174 ?_
                refine gX6_72 (pc := 175) C hT dX6_close_175 ?_
                refine r_iload4 (pc := 178) C dX6_close_178 ?_
                refine a425 (pc := 180) C hT rfl (by omega) dX6_close_180 ?_
                rw [show (up τ 60 23 (-1)) 85 k = τ 85 k from rfl]
                refine r_goto (pc := 181) C (tgt := 185) dX6_close_181 (by decide) ?_
                refine r_istore3 (pc := 185) C dX6_close_185 ?_
                refine r_iinc4 (pc := 186) C dX6_close_186 hk ?_
                refine r_goto (pc := 189) C (tgt := 151) dX6_close_189 (by decide) ?_
                have h3 := ih (k + 1) hw
                first
                | (have e1 : pyM τ (twM τ 5) (k + 1) = τ 85 k := iF_t (And.intro c_160 (Int32.not_le.mp c_171))
                   rw [e1] at h3; exact h3 (by omega) (by omega))
                | (have e1 : pyM τ (twM τ 5) (k + 1) = pyM τ (twM τ 5) k := iF_f (fun h => absurd h.2 (Int32.not_lt.mpr c_171))
                   rw [e1] at h3; exact h3 (by omega) (by omega))
                | (have e1 : pyM τ (twM τ 5) (k + 1) = pyM τ (twM τ 5) k := iF_f (fun h => h.1 c_160)
                   rw [e1] at h3; exact h3 (by omega) (by omega))
      have loop1 : ∀ (z k : Nat) (x3 x4 : Option Value), k ≤ 5 → 5 < k + z → V D A 5 (T, ad, cO D ad (τ)) p l e (RM 7 0 0) s m args below meth c 0 0 (vx_MQ below (va_Qi (fun r S1 => ((0 : Int32) = 0 → r = twM τ 5 ∧ S1 = (T, ad, cO D ad (clM τ i))) ∧ (¬ (0 : Int32) = 0 → r = 0 ∧ S1 = (T, ad, cO D ad (τ)))) (PoB D A) A) (XCs D (T, ad, cO D ad σ) A (nX)) args s 0 0 A) 26 [some (.ref (ad 400)), some (.int (twM τ k)), some (.int (nI k)), x3, x4] [] := by
        intro z
        induction z with
        | zero => intro k x3 x4 h1 h2; omega
        | succ z ih =>
          intro k x3 x4 h1 h2
          have hk : nI k + 1 = nI (k + 1) := nI_1 k
          have J : ∀ (v : Int32) (x3 : Option Value), k < 5 → v = bI (twM τ k = -1 ∨ τ 85 (twM τ k).toNatClampNeg < τ 85 k ∨ (τ 85 k = τ 85 (twM τ k).toNatClampNeg ∧ τ 82 (twM τ k).toNatClampNeg < τ 82 k)) → V D A 5 (T, ad, cO D ad (τ)) p l e (RM 7 0 0) s m args below meth c 0 0 (vx_MQ below (va_Qi (fun r S1 => ((0 : Int32) = 0 → r = twM τ 5 ∧ S1 = (T, ad, cO D ad (clM τ i))) ∧ (¬ (0 : Int32) = 0 → r = 0 ∧ S1 = (T, ad, cO D ad (τ)))) (PoB D A) A) (XCs D (T, ad, cO D ad σ) A (nX)) args s 0 0 A) 86 [some (.ref (ad 400)), some (.int (twM τ k)), some (.int (nI k)), x3, x4] [.int v] := by
            intro v x3 hk5 hv
            subst hv
            refine r_istore3 (pc := 86) C dX6_close_86 ?_
            refine r_aload0 (pc := 87) C dX6_close_87 ?_
            refine gX6_72 (pc := 88) C hT dX6_close_88 ?_
            refine r_iload2 (pc := 91) C dX6_close_91 ?_
            refine a425 (pc := 92) C hT rfl (by omega) dX6_close_92 ?_
            refine r_iconst (pc := 93) C (v := (-1)) dX6_close_93 (by decide) ?_
            refine r_icmp_eq (pc := 94) C (tgt := 118) dX6_close_94 (by decide) (fun c_94 => ?_) (fun c_94 => ?_)
            · refine r_iload1 (pc := 118) C dX6_close_118 ?_
              refine r_istore1 (pc := 119) C dX6_close_119 ?_
              refine r_iinc2 (pc := 120) C dX6_close_120 hk ?_
              refine r_goto (pc := 123) C (tgt := 26) dX6_close_123 (by decide) ?_
              have h3 := ih (k + 1)
              first
              | (have e1 : twM τ (k + 1) = nI k := iF_t (And.intro (And.intro c_94 (Int32.not_lt.mp c_107)) c_111)
                 rw [e1] at h3; exact h3 _ _ (by omega) (by omega))
              | (have e1 : twM τ (k + 1) = twM τ k := iF_f (fun h => c_111 h.2)
                 rw [e1] at h3; exact h3 _ _ (by omega) (by omega))
              | (have e1 : twM τ (k + 1) = twM τ k := iF_f (fun h => absurd c_107 (Int32.not_lt.mpr h.1.2))
                 rw [e1] at h3; exact h3 _ _ (by omega) (by omega))
              | (have e1 : twM τ (k + 1) = twM τ k := iF_f (fun h => h.1.1 c_94)
                 rw [e1] at h3; exact h3 _ _ (by omega) (by omega))
            · refine r_aload0 (pc := 97) C dX6_close_97 ?_
              refine gX6_72 (pc := 98) C hT dX6_close_98 ?_
              refine r_iload2 (pc := 101) C dX6_close_101 ?_
              refine a425 (pc := 102) C hT rfl (by omega) dX6_close_102 ?_
              refine r_aload0 (pc := 103) C dX6_close_103 ?_
              refine gX6_178 (pc := 104) C hT dX6_close_104 ?_
              refine r_icmp_lt (pc := 107) C (tgt := 118) dX6_close_107 (by decide) (fun c_107 => ?_) (fun c_107 => ?_)
              · refine r_iload1 (pc := 118) C dX6_close_118 ?_
                refine r_istore1 (pc := 119) C dX6_close_119 ?_
                refine r_iinc2 (pc := 120) C dX6_close_120 hk ?_
                refine r_goto (pc := 123) C (tgt := 26) dX6_close_123 (by decide) ?_
                have h3 := ih (k + 1)
                first
                | (have e1 : twM τ (k + 1) = nI k := iF_t (And.intro (And.intro c_94 (Int32.not_lt.mp c_107)) c_111)
                   rw [e1] at h3; exact h3 _ _ (by omega) (by omega))
                | (have e1 : twM τ (k + 1) = twM τ k := iF_f (fun h => c_111 h.2)
                   rw [e1] at h3; exact h3 _ _ (by omega) (by omega))
                | (have e1 : twM τ (k + 1) = twM τ k := iF_f (fun h => absurd c_107 (Int32.not_lt.mpr h.1.2))
                   rw [e1] at h3; exact h3 _ _ (by omega) (by omega))
                | (have e1 : twM τ (k + 1) = twM τ k := iF_f (fun h => h.1.1 c_94)
                   rw [e1] at h3; exact h3 _ _ (by omega) (by omega))
              · refine r_iload3 (pc := 110) C dX6_close_110 ?_
                refine r_if_eq_b (pc := 111) C (tgt := 118) dX6_close_111 (by decide) (fun c_111 => ?_) (fun c_111 => ?_)
                · refine r_iload1 (pc := 118) C dX6_close_118 ?_
                  refine r_istore1 (pc := 119) C dX6_close_119 ?_
                  refine r_iinc2 (pc := 120) C dX6_close_120 hk ?_
                  refine r_goto (pc := 123) C (tgt := 26) dX6_close_123 (by decide) ?_
                  have h3 := ih (k + 1)
                  first
                  | (have e1 : twM τ (k + 1) = nI k := iF_t (And.intro (And.intro c_94 (Int32.not_lt.mp c_107)) c_111)
                     rw [e1] at h3; exact h3 _ _ (by omega) (by omega))
                  | (have e1 : twM τ (k + 1) = twM τ k := iF_f (fun h => c_111 h.2)
                     rw [e1] at h3; exact h3 _ _ (by omega) (by omega))
                  | (have e1 : twM τ (k + 1) = twM τ k := iF_f (fun h => absurd c_107 (Int32.not_lt.mpr h.1.2))
                     rw [e1] at h3; exact h3 _ _ (by omega) (by omega))
                  | (have e1 : twM τ (k + 1) = twM τ k := iF_f (fun h => h.1.1 c_94)
                     rw [e1] at h3; exact h3 _ _ (by omega) (by omega))
                · refine r_iload2 (pc := 114) C dX6_close_114 ?_
                  refine r_goto (pc := 115) C (tgt := 119) dX6_close_115 (by decide) ?_
                  refine r_istore1 (pc := 119) C dX6_close_119 ?_
                  refine r_iinc2 (pc := 120) C dX6_close_120 hk ?_
                  refine r_goto (pc := 123) C (tgt := 26) dX6_close_123 (by decide) ?_
                  have h3 := ih (k + 1)
                  first
                  | (have e1 : twM τ (k + 1) = nI k := iF_t (And.intro (And.intro c_94 (Int32.not_lt.mp c_107)) c_111)
                     rw [e1] at h3; exact h3 _ _ (by omega) (by omega))
                  | (have e1 : twM τ (k + 1) = twM τ k := iF_f (fun h => c_111 h.2)
                     rw [e1] at h3; exact h3 _ _ (by omega) (by omega))
                  | (have e1 : twM τ (k + 1) = twM τ k := iF_f (fun h => absurd c_107 (Int32.not_lt.mpr h.1.2))
                     rw [e1] at h3; exact h3 _ _ (by omega) (by omega))
                  | (have e1 : twM τ (k + 1) = twM τ k := iF_f (fun h => h.1.1 c_94)
                     rw [e1] at h3; exact h3 _ _ (by omega) (by omega))
          refine r_iload2 (pc := 26) C dX6_close_26 ?_
          refine r_iconst (pc := 27) C (v := nI 5) dX6_close_27 (by decide) ?_
          refine r_icmp_geN (pc := 28) C (tgt := 126) dX6_close_28 (by decide) (by omega) (by omega) (fun c_28 => ?_) (fun c_28 => ?_)
          · have hk5 : k = 5 := by omega
            rw [hk5]
            refine r_aload0 (pc := 126) C dX6_close_126 ?_
            refine gX6_68 (pc := 127) C hT dX6_close_127 ?_
            rw [hti]
            refine r_istore2 (pc := 130) C dX6_close_130 ?_
            refine r_aload0 (pc := 131) C dX6_close_131 ?_
            refine r_iconst (pc := 132) C (v := (-1)) dX6_close_132 (by decide) ?_
            refine pX6_68 (pc := 133) C hT dX6_close_133 ?_
            refine r_iload1 (pc := 136) C dX6_close_136 ?_
            refine r_iconst (pc := 137) C (v := (-1)) dX6_close_137 (by decide) ?_
            refine r_icmp_ne (pc := 138) C (tgt := 143) dX6_close_138 (by decide) (fun c_138 => ?_) (fun c_138 => ?_)
            · refine r_aload0 (pc := 143) C dX6_close_143 ?_
              refine gX6_178 (pc := 144) C hT dX6_close_144 ?_
              rw [show (up τ 60 23 (-1)) 60 24 = τ 60 24 from rfl]
              refine r_istore3 (pc := 147) C dX6_close_147 ?_
              refine r_iconst (pc := 148) C (v := 0) dX6_close_148 (by decide) ?_
              refine r_istore4 (pc := 149) C dX6_close_149 ?_
              exact loop2 6 0 c_138 (by omega) (by omega)
            · refine r_iconst (pc := 141) C (v := (-1)) dX6_close_141 (by decide) ?_
              exact r_iret C rfl dX6_close_142 (⟨fun _ => ⟨c_138.symm, by unfold clM; exact congrArg (fun z => (T, ad, cO D ad z)) (iF_t c_138).symm⟩, fun q => absurd rfl q⟩) (by decide) (by decide)
          · refine r_iload1 (pc := 31) C dX6_close_31 ?_
            refine r_iconst (pc := 32) C (v := (-1)) dX6_close_32 (by decide) ?_
            refine r_icmp_eq (pc := 33) C (tgt := 81) dX6_close_33 (by decide) (fun c_33 => ?_) (fun c_33 => ?_)
            · refine r_iconst (pc := 81) C (v := 1) dX6_close_81 (by decide) ?_
              refine r_goto (pc := 82) C (tgt := 86) dX6_close_82 (by decide) ?_
              first
              | exact J _ _ c_28 (bI_t (Or.inl c_33)).symm
              | exact J _ _ c_28 (bI_t (Or.inr (Or.inl (by rw [hc]; exact c_48)))).symm
              | exact J _ _ c_28 (bI_f (fun h => by rw [hc] at h; exact h.elim c_33 (fun h => h.elim c_48 (fun h => c_63 h.1)))).symm
              | exact J _ _ c_28 (bI_f (fun h => by rw [hc] at h; exact h.elim c_33 (fun h => h.elim c_48 (fun h => absurd h.2 (Int32.not_lt.mpr c_78))))).symm
              | exact J _ _ c_28 (bI_t (by rw [hc]; exact Or.inr (Or.inr (And.intro c_63 (Int32.not_le.mp c_78))))).symm
            · obtain ⟨j, hj, hbj⟩ : ∃ j, j < k ∧ twM τ k = nI j := (twM_ix τ k).resolve_left c_33
              have hc : (twM τ k).toNatClampNeg = j := by rw [hbj, nI_clamp (by omega)]
              refine r_aload0 (pc := 36) C dX6_close_36 ?_
              refine gX6_72 (pc := 37) C hT dX6_close_37 ?_
              refine r_iload2 (pc := 40) C dX6_close_40 ?_
              refine a425 (pc := 41) C hT rfl (by omega) dX6_close_41 ?_
              refine r_aload0 (pc := 42) C dX6_close_42 ?_
              refine gX6_72 (pc := 43) C hT dX6_close_43 ?_
              refine r_iload1 (pc := 46) C dX6_close_46 ?_
              refine a425 (pc := 47) C hT hbj (by omega) dX6_close_47 ?_
              refine r_icmp_gt (pc := 48) C (tgt := 81) dX6_close_48 (by decide) (fun c_48 => ?_) (fun c_48 => ?_)
              · refine r_iconst (pc := 81) C (v := 1) dX6_close_81 (by decide) ?_
                refine r_goto (pc := 82) C (tgt := 86) dX6_close_82 (by decide) ?_
                first
                | exact J _ _ c_28 (bI_t (Or.inl c_33)).symm
                | exact J _ _ c_28 (bI_t (Or.inr (Or.inl (by rw [hc]; exact c_48)))).symm
                | exact J _ _ c_28 (bI_f (fun h => by rw [hc] at h; exact h.elim c_33 (fun h => h.elim c_48 (fun h => c_63 h.1)))).symm
                | exact J _ _ c_28 (bI_f (fun h => by rw [hc] at h; exact h.elim c_33 (fun h => h.elim c_48 (fun h => absurd h.2 (Int32.not_lt.mpr c_78))))).symm
                | exact J _ _ c_28 (bI_t (by rw [hc]; exact Or.inr (Or.inr (And.intro c_63 (Int32.not_le.mp c_78))))).symm
              · refine r_aload0 (pc := 51) C dX6_close_51 ?_
                refine gX6_72 (pc := 52) C hT dX6_close_52 ?_
                refine r_iload2 (pc := 55) C dX6_close_55 ?_
                refine a425 (pc := 56) C hT rfl (by omega) dX6_close_56 ?_
                refine r_aload0 (pc := 57) C dX6_close_57 ?_
                refine gX6_72 (pc := 58) C hT dX6_close_58 ?_
                refine r_iload1 (pc := 61) C dX6_close_61 ?_
                refine a425 (pc := 62) C hT hbj (by omega) dX6_close_62 ?_
                refine r_icmp_ne (pc := 63) C (tgt := 85) dX6_close_63 (by decide) (fun c_63 => ?_) (fun c_63 => ?_)
                · refine r_iconst (pc := 85) C (v := 0) dX6_close_85 (by decide) ?_
                  first
                  | exact J _ _ c_28 (bI_t (Or.inl c_33)).symm
                  | exact J _ _ c_28 (bI_t (Or.inr (Or.inl (by rw [hc]; exact c_48)))).symm
                  | exact J _ _ c_28 (bI_f (fun h => by rw [hc] at h; exact h.elim c_33 (fun h => h.elim c_48 (fun h => c_63 h.1)))).symm
                  | exact J _ _ c_28 (bI_f (fun h => by rw [hc] at h; exact h.elim c_33 (fun h => h.elim c_48 (fun h => absurd h.2 (Int32.not_lt.mpr c_78))))).symm
                  | exact J _ _ c_28 (bI_t (by rw [hc]; exact Or.inr (Or.inr (And.intro c_63 (Int32.not_le.mp c_78))))).symm
                · refine r_aload0 (pc := 66) C dX6_close_66 ?_
                  refine gX6_65 (pc := 67) C hT dX6_close_67 ?_
                  refine r_iload2 (pc := 70) C dX6_close_70 ?_
                  refine a422 (pc := 71) C hT rfl (by omega) dX6_close_71 ?_
                  refine r_aload0 (pc := 72) C dX6_close_72 ?_
                  refine gX6_65 (pc := 73) C hT dX6_close_73 ?_
                  refine r_iload1 (pc := 76) C dX6_close_76 ?_
                  refine a422 (pc := 77) C hT hbj (by omega) dX6_close_77 ?_
                  refine r_icmp_le (pc := 78) C (tgt := 85) dX6_close_78 (by decide) (fun c_78 => ?_) (fun c_78 => ?_)
                  · refine r_iconst (pc := 85) C (v := 0) dX6_close_85 (by decide) ?_
                    first
                    | exact J _ _ c_28 (bI_t (Or.inl c_33)).symm
                    | exact J _ _ c_28 (bI_t (Or.inr (Or.inl (by rw [hc]; exact c_48)))).symm
                    | exact J _ _ c_28 (bI_f (fun h => by rw [hc] at h; exact h.elim c_33 (fun h => h.elim c_48 (fun h => c_63 h.1)))).symm
                    | exact J _ _ c_28 (bI_f (fun h => by rw [hc] at h; exact h.elim c_33 (fun h => h.elim c_48 (fun h => absurd h.2 (Int32.not_lt.mpr c_78))))).symm
                    | exact J _ _ c_28 (bI_t (by rw [hc]; exact Or.inr (Or.inr (And.intro c_63 (Int32.not_le.mp c_78))))).symm
                  · refine r_iconst (pc := 81) C (v := 1) dX6_close_81 (by decide) ?_
                    refine r_goto (pc := 82) C (tgt := 86) dX6_close_82 (by decide) ?_
                    first
                    | exact J _ _ c_28 (bI_t (Or.inl c_33)).symm
                    | exact J _ _ c_28 (bI_t (Or.inr (Or.inl (by rw [hc]; exact c_48)))).symm
                    | exact J _ _ c_28 (bI_f (fun h => by rw [hc] at h; exact h.elim c_33 (fun h => h.elim c_48 (fun h => c_63 h.1)))).symm
                    | exact J _ _ c_28 (bI_f (fun h => by rw [hc] at h; exact h.elim c_33 (fun h => h.elim c_48 (fun h => absurd h.2 (Int32.not_lt.mpr c_78))))).symm
                    | exact J _ _ c_28 (bI_t (by rw [hc]; exact Or.inr (Or.inr (And.intro c_63 (Int32.not_le.mp c_78))))).symm
      exact loop1 6 0 _ _ (by omega) (by omega)
    · have hno : ¬ (cd1 (¬ σ 60 23 = -1)) = 0 := cd1_f (by assumption)
      refine r_iconst (pc := 20) C (v := 0) dX6_close_20 (by decide) ?_
      exact r_iret C rfl dX6_close_21 (by first | exact ⟨fun q => absurd q hno, fun _ => ⟨rfl, rfl⟩⟩ | exact ⟨fun _ => ⟨rfl, rfl⟩, fun q => absurd rfl q⟩) (by decide) (by decide)
  · refine r_iconst (pc := 9) C (v := 1) dX6_close_9 (by decide) ?_
    refine r_goto (pc := 10) C (tgt := 14) dX6_close_10 (by decide) ?_
    refine kX6_148 (pc := 14) C (ask1 l D _ _ _ hT (¬ σ 60 23 = -1) (by first | exact (bI_t c_6).symm | exact (bI_f (fun h => h c_6)).symm)) (hT.f (by decide)) rfl dX6_close_14 (Nat.le_of_ble_eq_true rfl) (by decide) ?_
    rintro _ _ ⟨rfl, rfl⟩
    refine r_if_ne_b (pc := 17) C (tgt := 22) dX6_close_17 (by decide) (fun c_17 => ?_) (fun c_17 => ?_)
    · have hok : (cd1 (¬ σ 60 23 = -1)) = 0 := cd1_t c_17
      rw [hok]
      obtain ⟨τ, hτ⟩ : ∃ τ, up σ 60 0 0 = τ := ⟨_, rfl⟩
      rw [hτ]
      obtain ⟨hm1, hm3, hm26, hm18, hnp, hnr, hng, hnb5, hb, hsc, hlc, hpa, hro, hof, hte⟩ := (hτ ▸ ML_up 0 hS : ML nr ng np nb τ)
      have hP := c_17
      obtain ⟨i, hi, hti⟩ := hte.resolve_left (by rw [← hτ]; exact hP)
      rw [show (τ 60 23).toNatClampNeg = i by rw [hti, nI_clamp (by omega)]]
      refine r_iconst (pc := 22) C (v := (-1)) dX6_close_22 (by decide) ?_
      refine r_istore1 (pc := 23) C dX6_close_23 ?_
      refine r_iconst (pc := 24) C (v := 0) dX6_close_24 (by decide) ?_
      refine r_istore2 (pc := 25) C dX6_close_25 ?_
      have loop2 : ∀ (z k : Nat) (hw : ¬ twM τ 5 = -1), k ≤ 5 → 5 < k + z → V D A 5 (T, ad, cO D ad (up τ 60 23 (-1))) p l e (RM 7 0 0) s m args below meth c 0 0 (vx_MQ below (va_Qi (fun r S1 => ((0 : Int32) = 0 → r = twM τ 5 ∧ S1 = (T, ad, cO D ad (clM τ i))) ∧ (¬ (0 : Int32) = 0 → r = 0 ∧ S1 = (T, ad, cO D ad (τ)))) (PoB D A) A) (XCs D (T, ad, cO D ad σ) A (nX)) args s 0 0 A) 151 [some (.ref (ad 400)), some (.int (twM τ 5)), some (.int (nI i)), some (.int (pyM τ (twM τ 5) k)), some (.int (nI k))] [] := by
        intro z
        induction z with
        | zero => intro k hw h1 h2; omega
        | succ z ih =>
          intro k hw h1 h2
          have hk : nI k + 1 = nI (k + 1) := nI_1 k
          refine r_iload4 (pc := 151) C dX6_close_151 ?_
          refine r_iconst (pc := 153) C (v := nI 5) dX6_close_153 (by decide) ?_
          refine r_icmp_geN (pc := 154) C (tgt := 192) dX6_close_154 (by decide) (by omega) (by omega) (fun c_154 => ?_) (fun c_154 => ?_)
          · have hk5 : k = 5 := by omega
            rw [hk5]
            refine r_aload0 (pc := 192) C dX6_close_192 ?_
            refine gX6_37 (pc := 193) C hT dX6_close_193 ?_
            refine r_iload2 (pc := 196) C dX6_close_196 ?_
            refine r_iload3 (pc := 197) C dX6_close_197 ?_
            refine b412 (pc := 198) C hT rfl (by omega) dX6_close_198 ?_
            refine r_aload0 (pc := 199) C dX6_close_199 ?_
            refine gX6_31 (pc := 200) C hT dX6_close_200 ?_
            refine r_iload2 (pc := 203) C dX6_close_203 ?_
            refine r_iload1 (pc := 204) C dX6_close_204 ?_
            refine b410 (pc := 205) C hT rfl (by omega) dX6_close_205 ?_
            refine r_aload0 (pc := 206) C dX6_close_206 ?_
            refine gX6_28 (pc := 207) C hT dX6_close_207 ?_
            refine r_iload2 (pc := 210) C dX6_close_210 ?_
            refine r_iconst (pc := 211) C (v := 2) dX6_close_211 (by decide) ?_
            refine b409 (pc := 212) C hT rfl (by omega) dX6_close_212 ?_
            refine r_iload1 (pc := 213) C dX6_close_213 ?_
            exact r_iret C rfl dX6_close_214 (⟨fun _ => ⟨rfl, by unfold clM; exact congrArg (fun z => (T, ad, cO D ad z)) (iF_f hw).symm⟩, fun q => absurd rfl q⟩) (by decide) (by decide)
          · refine r_iload4 (pc := 157) C dX6_close_157 ?_
            refine r_iload1 (pc := 159) C dX6_close_159 ?_
            refine r_icmp_eq (pc := 160) C (tgt := 184) dX6_close_160 (by decide) (fun c_160 => ?_) (fun c_160 => ?_)
            · refine r_iload3 (pc := 184) C dX6_close_184 ?_
              refine r_istore3 (pc := 185) C dX6_close_185 ?_
              refine r_iinc4 (pc := 186) C dX6_close_186 hk ?_
              refine r_goto (pc := 189) C (tgt := 151) dX6_close_189 (by decide) ?_
              have h3 := ih (k + 1) hw
              first
              | (have e1 : pyM τ (twM τ 5) (k + 1) = τ 85 k := iF_t (And.intro c_160 (Int32.not_le.mp c_171))
                 rw [e1] at h3; exact h3 (by omega) (by omega))
              | (have e1 : pyM τ (twM τ 5) (k + 1) = pyM τ (twM τ 5) k := iF_f (fun h => absurd h.2 (Int32.not_lt.mpr c_171))
                 rw [e1] at h3; exact h3 (by omega) (by omega))
              | (have e1 : pyM τ (twM τ 5) (k + 1) = pyM τ (twM τ 5) k := iF_f (fun h => h.1 c_160)
                 rw [e1] at h3; exact h3 (by omega) (by omega))
            · refine r_aload0 (pc := 163) C dX6_close_163 ?_
              refine gX6_72 (pc := 164) C hT dX6_close_164 ?_
              refine r_iload4 (pc := 167) C dX6_close_167 ?_
              refine a425 (pc := 169) C hT rfl (by omega) dX6_close_169 ?_
              rw [show (up τ 60 23 (-1)) 85 k = τ 85 k from rfl]
              refine r_iload3 (pc := 170) C dX6_close_170 ?_
              refine r_icmp_le (pc := 171) C (tgt := 184) dX6_close_171 (by decide) (fun c_171 => ?_) (fun c_171 => ?_)
              · refine r_iload3 (pc := 184) C dX6_close_184 ?_
                refine r_istore3 (pc := 185) C dX6_close_185 ?_
                refine r_iinc4 (pc := 186) C dX6_close_186 hk ?_
                refine r_goto (pc := 189) C (tgt := 151) dX6_close_189 (by decide) ?_
                have h3 := ih (k + 1) hw
                first
                | (have e1 : pyM τ (twM τ 5) (k + 1) = τ 85 k := iF_t (And.intro c_160 (Int32.not_le.mp c_171))
                   rw [e1] at h3; exact h3 (by omega) (by omega))
                | (have e1 : pyM τ (twM τ 5) (k + 1) = pyM τ (twM τ 5) k := iF_f (fun h => absurd h.2 (Int32.not_lt.mpr c_171))
                   rw [e1] at h3; exact h3 (by omega) (by omega))
                | (have e1 : pyM τ (twM τ 5) (k + 1) = pyM τ (twM τ 5) k := iF_f (fun h => h.1 c_160)
                   rw [e1] at h3; exact h3 (by omega) (by omega))
              · refine r_aload0 (pc := 174) C dX6_close_174 ?_
                refine gX6_72 (pc := 175) C hT dX6_close_175 ?_
                refine r_iload4 (pc := 178) C dX6_close_178 ?_
                refine a425 (pc := 180) C hT rfl (by omega) dX6_close_180 ?_
                rw [show (up τ 60 23 (-1)) 85 k = τ 85 k from rfl]
                refine r_goto (pc := 181) C (tgt := 185) dX6_close_181 (by decide) ?_
                refine r_istore3 (pc := 185) C dX6_close_185 ?_
                refine r_iinc4 (pc := 186) C dX6_close_186 hk ?_
                refine r_goto (pc := 189) C (tgt := 151) dX6_close_189 (by decide) ?_
                have h3 := ih (k + 1) hw
                first
                | (have e1 : pyM τ (twM τ 5) (k + 1) = τ 85 k := iF_t (And.intro c_160 (Int32.not_le.mp c_171))
                   rw [e1] at h3; exact h3 (by omega) (by omega))
                | (have e1 : pyM τ (twM τ 5) (k + 1) = pyM τ (twM τ 5) k := iF_f (fun h => absurd h.2 (Int32.not_lt.mpr c_171))
                   rw [e1] at h3; exact h3 (by omega) (by omega))
                | (have e1 : pyM τ (twM τ 5) (k + 1) = pyM τ (twM τ 5) k := iF_f (fun h => h.1 c_160)
                   rw [e1] at h3; exact h3 (by omega) (by omega))
      have loop1 : ∀ (z k : Nat) (x3 x4 : Option Value), k ≤ 5 → 5 < k + z → V D A 5 (T, ad, cO D ad (τ)) p l e (RM 7 0 0) s m args below meth c 0 0 (vx_MQ below (va_Qi (fun r S1 => ((0 : Int32) = 0 → r = twM τ 5 ∧ S1 = (T, ad, cO D ad (clM τ i))) ∧ (¬ (0 : Int32) = 0 → r = 0 ∧ S1 = (T, ad, cO D ad (τ)))) (PoB D A) A) (XCs D (T, ad, cO D ad σ) A (nX)) args s 0 0 A) 26 [some (.ref (ad 400)), some (.int (twM τ k)), some (.int (nI k)), x3, x4] [] := by
        intro z
        induction z with
        | zero => intro k x3 x4 h1 h2; omega
        | succ z ih =>
          intro k x3 x4 h1 h2
          have hk : nI k + 1 = nI (k + 1) := nI_1 k
          have J : ∀ (v : Int32) (x3 : Option Value), k < 5 → v = bI (twM τ k = -1 ∨ τ 85 (twM τ k).toNatClampNeg < τ 85 k ∨ (τ 85 k = τ 85 (twM τ k).toNatClampNeg ∧ τ 82 (twM τ k).toNatClampNeg < τ 82 k)) → V D A 5 (T, ad, cO D ad (τ)) p l e (RM 7 0 0) s m args below meth c 0 0 (vx_MQ below (va_Qi (fun r S1 => ((0 : Int32) = 0 → r = twM τ 5 ∧ S1 = (T, ad, cO D ad (clM τ i))) ∧ (¬ (0 : Int32) = 0 → r = 0 ∧ S1 = (T, ad, cO D ad (τ)))) (PoB D A) A) (XCs D (T, ad, cO D ad σ) A (nX)) args s 0 0 A) 86 [some (.ref (ad 400)), some (.int (twM τ k)), some (.int (nI k)), x3, x4] [.int v] := by
            intro v x3 hk5 hv
            subst hv
            refine r_istore3 (pc := 86) C dX6_close_86 ?_
            refine r_aload0 (pc := 87) C dX6_close_87 ?_
            refine gX6_72 (pc := 88) C hT dX6_close_88 ?_
            refine r_iload2 (pc := 91) C dX6_close_91 ?_
            refine a425 (pc := 92) C hT rfl (by omega) dX6_close_92 ?_
            refine r_iconst (pc := 93) C (v := (-1)) dX6_close_93 (by decide) ?_
            refine r_icmp_eq (pc := 94) C (tgt := 118) dX6_close_94 (by decide) (fun c_94 => ?_) (fun c_94 => ?_)
            · refine r_iload1 (pc := 118) C dX6_close_118 ?_
              refine r_istore1 (pc := 119) C dX6_close_119 ?_
              refine r_iinc2 (pc := 120) C dX6_close_120 hk ?_
              refine r_goto (pc := 123) C (tgt := 26) dX6_close_123 (by decide) ?_
              have h3 := ih (k + 1)
              first
              | (have e1 : twM τ (k + 1) = nI k := iF_t (And.intro (And.intro c_94 (Int32.not_lt.mp c_107)) c_111)
                 rw [e1] at h3; exact h3 _ _ (by omega) (by omega))
              | (have e1 : twM τ (k + 1) = twM τ k := iF_f (fun h => c_111 h.2)
                 rw [e1] at h3; exact h3 _ _ (by omega) (by omega))
              | (have e1 : twM τ (k + 1) = twM τ k := iF_f (fun h => absurd c_107 (Int32.not_lt.mpr h.1.2))
                 rw [e1] at h3; exact h3 _ _ (by omega) (by omega))
              | (have e1 : twM τ (k + 1) = twM τ k := iF_f (fun h => h.1.1 c_94)
                 rw [e1] at h3; exact h3 _ _ (by omega) (by omega))
            · refine r_aload0 (pc := 97) C dX6_close_97 ?_
              refine gX6_72 (pc := 98) C hT dX6_close_98 ?_
              refine r_iload2 (pc := 101) C dX6_close_101 ?_
              refine a425 (pc := 102) C hT rfl (by omega) dX6_close_102 ?_
              refine r_aload0 (pc := 103) C dX6_close_103 ?_
              refine gX6_178 (pc := 104) C hT dX6_close_104 ?_
              refine r_icmp_lt (pc := 107) C (tgt := 118) dX6_close_107 (by decide) (fun c_107 => ?_) (fun c_107 => ?_)
              · refine r_iload1 (pc := 118) C dX6_close_118 ?_
                refine r_istore1 (pc := 119) C dX6_close_119 ?_
                refine r_iinc2 (pc := 120) C dX6_close_120 hk ?_
                refine r_goto (pc := 123) C (tgt := 26) dX6_close_123 (by decide) ?_
                have h3 := ih (k + 1)
                first
                | (have e1 : twM τ (k + 1) = nI k := iF_t (And.intro (And.intro c_94 (Int32.not_lt.mp c_107)) c_111)
                   rw [e1] at h3; exact h3 _ _ (by omega) (by omega))
                | (have e1 : twM τ (k + 1) = twM τ k := iF_f (fun h => c_111 h.2)
                   rw [e1] at h3; exact h3 _ _ (by omega) (by omega))
                | (have e1 : twM τ (k + 1) = twM τ k := iF_f (fun h => absurd c_107 (Int32.not_lt.mpr h.1.2))
                   rw [e1] at h3; exact h3 _ _ (by omega) (by omega))
                | (have e1 : twM τ (k + 1) = twM τ k := iF_f (fun h => h.1.1 c_94)
                   rw [e1] at h3; exact h3 _ _ (by omega) (by omega))
              · refine r_iload3 (pc := 110) C dX6_close_110 ?_
                refine r_if_eq_b (pc := 111) C (tgt := 118) dX6_close_111 (by decide) (fun c_111 => ?_) (fun c_111 => ?_)
                · refine r_iload1 (pc := 118) C dX6_close_118 ?_
                  refine r_istore1 (pc := 119) C dX6_close_119 ?_
                  refine r_iinc2 (pc := 120) C dX6_close_120 hk ?_
                  refine r_goto (pc := 123) C (tgt := 26) dX6_close_123 (by decide) ?_
                  have h3 := ih (k + 1)
                  first
                  | (have e1 : twM τ (k + 1) = nI k := iF_t (And.intro (And.intro c_94 (Int32.not_lt.mp c_107)) c_111)
                     rw [e1] at h3; exact h3 _ _ (by omega) (by omega))
                  | (have e1 : twM τ (k + 1) = twM τ k := iF_f (fun h => c_111 h.2)
                     rw [e1] at h3; exact h3 _ _ (by omega) (by omega))
                  | (have e1 : twM τ (k + 1) = twM τ k := iF_f (fun h => absurd c_107 (Int32.not_lt.mpr h.1.2))
                     rw [e1] at h3; exact h3 _ _ (by omega) (by omega))
                  | (have e1 : twM τ (k + 1) = twM τ k := iF_f (fun h => h.1.1 c_94)
                     rw [e1] at h3; exact h3 _ _ (by omega) (by omega))
                · refine r_iload2 (pc := 114) C dX6_close_114 ?_
                  refine r_goto (pc := 115) C (tgt := 119) dX6_close_115 (by decide) ?_
                  refine r_istore1 (pc := 119) C dX6_close_119 ?_
                  refine r_iinc2 (pc := 120) C dX6_close_120 hk ?_
                  refine r_goto (pc := 123) C (tgt := 26) dX6_close_123 (by decide) ?_
                  have h3 := ih (k + 1)
                  first
                  | (have e1 : twM τ (k + 1) = nI k := iF_t (And.intro (And.intro c_94 (Int32.not_lt.mp c_107)) c_111)
                     rw [e1] at h3; exact h3 _ _ (by omega) (by omega))
                  | (have e1 : twM τ (k + 1) = twM τ k := iF_f (fun h => c_111 h.2)
                     rw [e1] at h3; exact h3 _ _ (by omega) (by omega))
                  | (have e1 : twM τ (k + 1) = twM τ k := iF_f (fun h => absurd c_107 (Int32.not_lt.mpr h.1.2))
                     rw [e1] at h3; exact h3 _ _ (by omega) (by omega))
                  | (have e1 : twM τ (k + 1) = twM τ k := iF_f (fun h => h.1.1 c_94)
                     rw [e1] at h3; exact h3 _ _ (by omega) (by omega))
          refine r_iload2 (pc := 26) C dX6_close_26 ?_
          refine r_iconst (pc := 27) C (v := nI 5) dX6_close_27 (by decide) ?_
          refine r_icmp_geN (pc := 28) C (tgt := 126) dX6_close_28 (by decide) (by omega) (by omega) (fun c_28 => ?_) (fun c_28 => ?_)
          · have hk5 : k = 5 := by omega
            rw [hk5]
            refine r_aload0 (pc := 126) C dX6_close_126 ?_
            refine gX6_68 (pc := 127) C hT dX6_close_127 ?_
            rw [hti]
            refine r_istore2 (pc := 130) C dX6_close_130 ?_
            refine r_aload0 (pc := 131) C dX6_close_131 ?_
            refine r_iconst (pc := 132) C (v := (-1)) dX6_close_132 (by decide) ?_
            refine pX6_68 (pc := 133) C hT dX6_close_133 ?_
            refine r_iload1 (pc := 136) C dX6_close_136 ?_
            refine r_iconst (pc := 137) C (v := (-1)) dX6_close_137 (by decide) ?_
            refine r_icmp_ne (pc := 138) C (tgt := 143) dX6_close_138 (by decide) (fun c_138 => ?_) (fun c_138 => ?_)
            · refine r_aload0 (pc := 143) C dX6_close_143 ?_
              refine gX6_178 (pc := 144) C hT dX6_close_144 ?_
              rw [show (up τ 60 23 (-1)) 60 24 = τ 60 24 from rfl]
              refine r_istore3 (pc := 147) C dX6_close_147 ?_
              refine r_iconst (pc := 148) C (v := 0) dX6_close_148 (by decide) ?_
              refine r_istore4 (pc := 149) C dX6_close_149 ?_
              exact loop2 6 0 c_138 (by omega) (by omega)
            · refine r_iconst (pc := 141) C (v := (-1)) dX6_close_141 (by decide) ?_
              exact r_iret C rfl dX6_close_142 (⟨fun _ => ⟨c_138.symm, by unfold clM; exact congrArg (fun z => (T, ad, cO D ad z)) (iF_t c_138).symm⟩, fun q => absurd rfl q⟩) (by decide) (by decide)
          · refine r_iload1 (pc := 31) C dX6_close_31 ?_
            refine r_iconst (pc := 32) C (v := (-1)) dX6_close_32 (by decide) ?_
            refine r_icmp_eq (pc := 33) C (tgt := 81) dX6_close_33 (by decide) (fun c_33 => ?_) (fun c_33 => ?_)
            · refine r_iconst (pc := 81) C (v := 1) dX6_close_81 (by decide) ?_
              refine r_goto (pc := 82) C (tgt := 86) dX6_close_82 (by decide) ?_
              first
              | exact J _ _ c_28 (bI_t (Or.inl c_33)).symm
              | exact J _ _ c_28 (bI_t (Or.inr (Or.inl (by rw [hc]; exact c_48)))).symm
              | exact J _ _ c_28 (bI_f (fun h => by rw [hc] at h; exact h.elim c_33 (fun h => h.elim c_48 (fun h => c_63 h.1)))).symm
              | exact J _ _ c_28 (bI_f (fun h => by rw [hc] at h; exact h.elim c_33 (fun h => h.elim c_48 (fun h => absurd h.2 (Int32.not_lt.mpr c_78))))).symm
              | exact J _ _ c_28 (bI_t (by rw [hc]; exact Or.inr (Or.inr (And.intro c_63 (Int32.not_le.mp c_78))))).symm
            · obtain ⟨j, hj, hbj⟩ : ∃ j, j < k ∧ twM τ k = nI j := (twM_ix τ k).resolve_left c_33
              have hc : (twM τ k).toNatClampNeg = j := by rw [hbj, nI_clamp (by omega)]
              refine r_aload0 (pc := 36) C dX6_close_36 ?_
              refine gX6_72 (pc := 37) C hT dX6_close_37 ?_
              refine r_iload2 (pc := 40) C dX6_close_40 ?_
              refine a425 (pc := 41) C hT rfl (by omega) dX6_close_41 ?_
              refine r_aload0 (pc := 42) C dX6_close_42 ?_
              refine gX6_72 (pc := 43) C hT dX6_close_43 ?_
              refine r_iload1 (pc := 46) C dX6_close_46 ?_
              refine a425 (pc := 47) C hT hbj (by omega) dX6_close_47 ?_
              refine r_icmp_gt (pc := 48) C (tgt := 81) dX6_close_48 (by decide) (fun c_48 => ?_) (fun c_48 => ?_)
              · refine r_iconst (pc := 81) C (v := 1) dX6_close_81 (by decide) ?_
                refine r_goto (pc := 82) C (tgt := 86) dX6_close_82 (by decide) ?_
                first
                | exact J _ _ c_28 (bI_t (Or.inl c_33)).symm
                | exact J _ _ c_28 (bI_t (Or.inr (Or.inl (by rw [hc]; exact c_48)))).symm
                | exact J _ _ c_28 (bI_f (fun h => by rw [hc] at h; exact h.elim c_33 (fun h => h.elim c_48 (fun h => c_63 h.1)))).symm
                | exact J _ _ c_28 (bI_f (fun h => by rw [hc] at h; exact h.elim c_33 (fun h => h.elim c_48 (fun h => absurd h.2 (Int32.not_lt.mpr c_78))))).symm
                | exact J _ _ c_28 (bI_t (by rw [hc]; exact Or.inr (Or.inr (And.intro c_63 (Int32.not_le.mp c_78))))).symm
              · refine r_aload0 (pc := 51) C dX6_close_51 ?_
                refine gX6_72 (pc := 52) C hT dX6_close_52 ?_
                refine r_iload2 (pc := 55) C dX6_close_55 ?_
                refine a425 (pc := 56) C hT rfl (by omega) dX6_close_56 ?_
                refine r_aload0 (pc := 57) C dX6_close_57 ?_
                refine gX6_72 (pc := 58) C hT dX6_close_58 ?_
                refine r_iload1 (pc := 61) C dX6_close_61 ?_
                refine a425 (pc := 62) C hT hbj (by omega) dX6_close_62 ?_
                refine r_icmp_ne (pc := 63) C (tgt := 85) dX6_close_63 (by decide) (fun c_63 => ?_) (fun c_63 => ?_)
                · refine r_iconst (pc := 85) C (v := 0) dX6_close_85 (by decide) ?_
                  first
                  | exact J _ _ c_28 (bI_t (Or.inl c_33)).symm
                  | exact J _ _ c_28 (bI_t (Or.inr (Or.inl (by rw [hc]; exact c_48)))).symm
                  | exact J _ _ c_28 (bI_f (fun h => by rw [hc] at h; exact h.elim c_33 (fun h => h.elim c_48 (fun h => c_63 h.1)))).symm
                  | exact J _ _ c_28 (bI_f (fun h => by rw [hc] at h; exact h.elim c_33 (fun h => h.elim c_48 (fun h => absurd h.2 (Int32.not_lt.mpr c_78))))).symm
                  | exact J _ _ c_28 (bI_t (by rw [hc]; exact Or.inr (Or.inr (And.intro c_63 (Int32.not_le.mp c_78))))).symm
                · refine r_aload0 (pc := 66) C dX6_close_66 ?_
                  refine gX6_65 (pc := 67) C hT dX6_close_67 ?_
                  refine r_iload2 (pc := 70) C dX6_close_70 ?_
                  refine a422 (pc := 71) C hT rfl (by omega) dX6_close_71 ?_
                  refine r_aload0 (pc := 72) C dX6_close_72 ?_
                  refine gX6_65 (pc := 73) C hT dX6_close_73 ?_
                  refine r_iload1 (pc := 76) C dX6_close_76 ?_
                  refine a422 (pc := 77) C hT hbj (by omega) dX6_close_77 ?_
                  refine r_icmp_le (pc := 78) C (tgt := 85) dX6_close_78 (by decide) (fun c_78 => ?_) (fun c_78 => ?_)
                  · refine r_iconst (pc := 85) C (v := 0) dX6_close_85 (by decide) ?_
                    first
                    | exact J _ _ c_28 (bI_t (Or.inl c_33)).symm
                    | exact J _ _ c_28 (bI_t (Or.inr (Or.inl (by rw [hc]; exact c_48)))).symm
                    | exact J _ _ c_28 (bI_f (fun h => by rw [hc] at h; exact h.elim c_33 (fun h => h.elim c_48 (fun h => c_63 h.1)))).symm
                    | exact J _ _ c_28 (bI_f (fun h => by rw [hc] at h; exact h.elim c_33 (fun h => h.elim c_48 (fun h => absurd h.2 (Int32.not_lt.mpr c_78))))).symm
                    | exact J _ _ c_28 (bI_t (by rw [hc]; exact Or.inr (Or.inr (And.intro c_63 (Int32.not_le.mp c_78))))).symm
                  · refine r_iconst (pc := 81) C (v := 1) dX6_close_81 (by decide) ?_
                    refine r_goto (pc := 82) C (tgt := 86) dX6_close_82 (by decide) ?_
                    first
                    | exact J _ _ c_28 (bI_t (Or.inl c_33)).symm
                    | exact J _ _ c_28 (bI_t (Or.inr (Or.inl (by rw [hc]; exact c_48)))).symm
                    | exact J _ _ c_28 (bI_f (fun h => by rw [hc] at h; exact h.elim c_33 (fun h => h.elim c_48 (fun h => c_63 h.1)))).symm
                    | exact J _ _ c_28 (bI_f (fun h => by rw [hc] at h; exact h.elim c_33 (fun h => h.elim c_48 (fun h => absurd h.2 (Int32.not_lt.mpr c_78))))).symm
                    | exact J _ _ c_28 (bI_t (by rw [hc]; exact Or.inr (Or.inr (And.intro c_63 (Int32.not_le.mp c_78))))).symm
      exact loop1 6 0 _ _ (by omega) (by omega)
    · have hno : ¬ (cd1 (¬ σ 60 23 = -1)) = 0 := cd1_f (by assumption)
      refine r_iconst (pc := 20) C (v := 0) dX6_close_20 (by decide) ?_
      exact r_iret C rfl dX6_close_21 (by first | exact ⟨fun q => absurd q hno, fun _ => ⟨rfl, rfl⟩⟩ | exact ⟨fun _ => ⟨rfl, rfl⟩, fun q => absurd rfl q⟩) (by decide) (by decide)


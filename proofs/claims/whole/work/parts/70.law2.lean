/-! ===== the law: a case a call ===== -/
section LAWCASES
variable {D : Gt} {A : Nat → Prop} {tb : List ExceptionTableEntry} {p : Program} {l : Launch} {e : Env} {s : State} {m : MethodId} {args : Array Value} {below : List Frame} {meth : Method} {c : Code} {cells slots : Nat} {Q : State → Prop} {T : List Nat} {ad : Nat → Nat} {σ : Mm} {nr ng np nb b Ls iL : Nat} {xs : Nat → Int32} {pc : Nat} {L : List (Option Value)} {st : List Value}
theorem r_sld (C : CX D A RL code 7 ret tb p s m args meth c) (hX : va_X b Ls xs s s.heap) (hbl : b < s.heap.size) (hbA : ¬ A b) {S : St} {k : Nat} {x : Int32} (hx : x = nI k) (hk : k < Ls) (hL : Ls ≤ 3072) (d : decode code pc = .ok (.iaload, 1)) (kk : V D A 7 S p l e room_1 s m args below meth c cells slots Q (pc + 1) L (.int (xs k) :: st)) : V D A 7 S p l e room_1 s m args below meth c cells slots Q pc L (.int x :: .ref b :: st) := fun H locs ls hP hD hS hl => by
  subst hx
  refine va_sld C.1.1 C.1.2.1 hX hbl hbA hS (vp_in_nI hk (by omega)) d ?_
  rw [nI_clamp (by omega)]
  exact kk H locs ls hP hD hS hl
theorem r_slen (C : CX D A RL code 7 ret tb p s m args meth c) (hX : va_X b Ls xs s s.heap) (hbl : b < s.heap.size) (hbA : ¬ A b) {S : St} (d : decode code pc = .ok (.arraylength, 1)) (kk : V D A 7 S p l e room_1 s m args below meth c cells slots Q (pc + 1) L (.int (nI Ls) :: st)) : V D A 7 S p l e room_1 s m args below meth c cells slots Q pc L (.ref b :: st) := fun H locs ls hP hD hS hl => va_slen C.1.1 C.1.2.1 hX hbl hbA hS d (kk H locs ls hP hD hS hl)
theorem lg_self (x : Int64) : lg_cmp x x = 0 := by unfold lg_cmp; simp
set_option maxRecDepth 100000 in
set_option maxHeartbeats 1000000 in
theorem lc_parcel (C : CX D A RL code 7 ret tb p s m args meth c) (hNC : NC s) (hX : va_X b Ls xs s s.heap) (hbl : b < s.heap.size) (hbA : ¬ A b) (hfl : l.stackTraces = false) (hT : TG nr ng T) (hI : INV nr ng np nb σ) (hi : iL + 6 ≤ Ls) (hL : Ls ≤ 3072) {x5 x6 : Option Value} (hc : cells + 40 ≤ room_1.cells ∧ slots + 400 ≤ room_1.slots) (next : ∀ (T2 : List Nat) (ad2 : Nat → Nat) (σ2 : Mm) (nr2 ng2 np2 nb2 : Nat) (x5 x6 : Option Value), TG nr2 ng2 T2 → INV nr2 ng2 np2 nb2 σ2 → V D A 7 (T2, ad2, cO D ad2 σ2) p l e room_1 s m args below meth c (cells + 40) (slots + 400) Q 1624 [some (.ref b), some (.ref (ad2 0)), some (.ref (ad2 400)), some (.ref (ad2 399)), some (.int (nI iL)), x5, x6] []) : V D A 7 (T, ad, cO D ad σ) p l e room_1 s m args below meth c cells slots Q 148 [some (.ref b), some (.ref (ad 0)), some (.ref (ad 400)), some (.ref (ad 399)), some (.int (nI iL)), x5, x6] [] := by
  have hT0 := hT
  refine r_aload1 (pc := 148) C dL_law_148 ?_
  refine r_aload0 (pc := 149) C dL_law_149 ?_
  refine r_iload4 (pc := 150) C dL_law_150 ?_
  refine r_iconst (pc := 152) C (v := nI 1) dL_law_152 (by decide) ?_
  refine r_iadd (pc := 153) C dL_law_153 ?_
  rw [show nI iL + nI 1 = nI (iL + 1) from nI_add iL 1]
  refine r_sld (pc := 154) C hX hbl hbA (k := iL + 1) rfl (by omega) hL dL_law_154 ?_
  refine r_aload3 (pc := 155) C dL_law_155 ?_
  refine r_callW (pc := 156) C hNC (c_L_parcel l D T ad σ hT ((xs (iL + 1))) (PP := (fun ov T2 ad2 σ2 => T2 = T ∧ ad2 = ad ∧ (∃ j, j < 4 ∧ (xs (iL + 1)) = nI j) ∧ np < 12 ∧ ov = nI np ∧ σ2 = (up (up σ 1 np (xs (iL + 1))) 0 1 (nI (np + 1))))) (c_X5_parcel l D hfl T ad σ hT hI.1 ((xs (iL + 1)))) (fun ov S0 h => by
      obtain ⟨g1, g2, g3, rfl⟩ := h
      exact ⟨T, ad, _, rfl, hT.f (by decide), rfl, rfl, rfl, g1, g2, g3, rfl⟩) (fun E h => h.elim (fun h => Or.inl h.1) (fun h => Or.inr h.1))) ml_RL_95 st_L_parcel ini_L cdW_L_parcel hd_RL_95 rfl rfl (Nat.le_of_ble_eq_true rfl) ⟨rfl, rfl⟩ (by decide) hc dL_law_156 ?_
  intro r S1 hpost
  rcases hpost with ⟨rfl, ov, _, _, σ2, ⟨rfl, rfl, hp⟩, rfl⟩ | ⟨rfl, he, rfl⟩ | ⟨rfl, he, rfl⟩
  · obtain ⟨hML3, hcd, hval, h60, h99, hI2⟩ := S_parcel ((xs (iL + 1))) hI hp
    refine r_istore5 (pc := 159) C dL_law_159 ?_
    refine r_aload2 (pc := 161) C dL_law_161 ?_
    refine r_aload0 (pc := 162) C dL_law_162 ?_
    refine r_iload4 (pc := 163) C dL_law_163 ?_
    refine r_iconst (pc := 165) C (v := nI 1) dL_law_165 (by decide) ?_
    refine r_iadd (pc := 166) C dL_law_166 ?_
    rw [show nI iL + nI 1 = nI (iL + 1) from nI_add iL 1]
    refine r_sld (pc := 167) C hX hbl hbA (k := iL + 1) rfl (by omega) hL dL_law_167 ?_
    refine kL_100 (pc := 168) C (c_X6_parcel l D _ _ _ hT hML3 ((xs (iL + 1)))) (hT.f (by decide)) rfl dL_law_168 (Nat.le_of_ble_eq_true rfl) ⟨⟨rfl, rfl⟩, by decide, hc.1, hc.2⟩ ?_
    rintro _ _ ⟨hy1, -⟩
    obtain ⟨rfl, rfl⟩ := hy1 hcd
    refine r_istore6 (pc := 171) C dL_law_171 ?_
    refine r_aload2 (pc := 173) C dL_law_173 ?_
    refine kL_101 (pc := 174) C (c_X6_thrown l D _ _ _ hT) (hT.f (by decide)) rfl dL_law_174 (Nat.le_of_ble_eq_true rfl) ⟨⟨rfl, rfl⟩, by decide, hc.1, hc.2⟩ ?_
    rintro _ _ ⟨rfl, rfl⟩
    rw [h60]
    refine r_iload5 (pc := 177) C dL_law_177 ?_
    refine r_icmp_eq (pc := 179) C (tgt := 184) dL_law_179 (by decide) (fun _ => ?_) (fun z => absurd rfl z)
    refine r_iload5 (pc := 184) C dL_law_184 ?_
    refine r_if_ne (pc := 186) C (tgt := 201) dL_law_186 (by decide) (fun z => absurd rfl z) (fun _ => ?_)
    refine r_aload3 (pc := 189) C dL_law_189 ?_
    refine r_iconst (pc := 190) C (v := nI 0) dL_law_190 (by decide) ?_
    refine r_lald (pc := 191) C (t := 399) (k := 0) (hT.f (by decide)) rfl rfl (by decide) (by decide) dL_law_191 ?_
    rw [h99.trans hval]
    refine r_iload6 (pc := 192) C dL_law_192 ?_
    refine r_i2l (pc := 194) C dL_law_194 ?_
    refine r_lcmp (pc := 195) C dL_law_195 ?_
    rw [lg_self]
    refine r_if_eq (pc := 196) C (tgt := 201) dL_law_196 (by decide) (fun _ => ?_) (fun z => absurd rfl z)
    refine r_goto (pc := 201) C (tgt := 1624) dL_law_201 (by decide) ?_
    exact next _ _ _ _ _ _ _ _ _ hT hI2
  · refine r_istore5 (pc := 159) C dL_law_159 ?_
    refine r_aload2 (pc := 161) C dL_law_161 ?_
    refine r_aload0 (pc := 162) C dL_law_162 ?_
    refine r_iload4 (pc := 163) C dL_law_163 ?_
    refine r_iconst (pc := 165) C (v := nI 1) dL_law_165 (by decide) ?_
    refine r_iadd (pc := 166) C dL_law_166 ?_
    rw [show nI iL + nI 1 = nI (iL + 1) from nI_add iL 1]
    refine r_sld (pc := 167) C hX hbl hbA (k := iL + 1) rfl (by omega) hL dL_law_167 ?_
    refine kL_100 (pc := 168) C (c_X6_parcel l D _ _ _ hT hI.2.2.1 ((xs (iL + 1)))) (hT.f (by decide)) rfl dL_law_168 (Nat.le_of_ble_eq_true rfl) ⟨⟨rfl, rfl⟩, by decide, hc.1, hc.2⟩ ?_
    have hcd := (E_parcel ((xs (iL + 1))) hI).1 he
    have hne : ¬ (cd2 (0 ≤ (xs (iL + 1)) ∧ (xs (iL + 1)) ≤ 3) (σ 60 1 < 12)) = 0 := by rw [hcd]; decide
    rintro _ _ ⟨-, hy2⟩
    obtain ⟨rfl, rfl⟩ := hy2 hne
    rw [hcd]
    refine r_istore6 (pc := 171) C dL_law_171 ?_
    refine r_aload2 (pc := 173) C dL_law_173 ?_
    refine kL_101 (pc := 174) C (c_X6_thrown l D _ _ _ hT) (hT.f (by decide)) rfl dL_law_174 (Nat.le_of_ble_eq_true rfl) ⟨⟨rfl, rfl⟩, by decide, hc.1, hc.2⟩ ?_
    rintro _ _ ⟨rfl, rfl⟩
    rw [up_self]
    refine r_iload5 (pc := 177) C dL_law_177 ?_
    refine r_icmp_eq (pc := 179) C (tgt := 184) dL_law_179 (by decide) (fun _ => ?_) (fun z => absurd rfl z)
    refine r_iload5 (pc := 184) C dL_law_184 ?_
    refine r_if_ne (pc := 186) C (tgt := 201) dL_law_186 (by decide) (fun _ => ?_) (fun z => absurd z (by decide))
    refine r_goto (pc := 201) C (tgt := 1624) dL_law_201 (by decide) ?_
    exact next _ _ _ _ _ _ _ _ _ hT (INV_60 _ hI)
  · refine r_istore5 (pc := 159) C dL_law_159 ?_
    refine r_aload2 (pc := 161) C dL_law_161 ?_
    refine r_aload0 (pc := 162) C dL_law_162 ?_
    refine r_iload4 (pc := 163) C dL_law_163 ?_
    refine r_iconst (pc := 165) C (v := nI 1) dL_law_165 (by decide) ?_
    refine r_iadd (pc := 166) C dL_law_166 ?_
    rw [show nI iL + nI 1 = nI (iL + 1) from nI_add iL 1]
    refine r_sld (pc := 167) C hX hbl hbA (k := iL + 1) rfl (by omega) hL dL_law_167 ?_
    refine kL_100 (pc := 168) C (c_X6_parcel l D _ _ _ hT hI.2.2.1 ((xs (iL + 1)))) (hT.f (by decide)) rfl dL_law_168 (Nat.le_of_ble_eq_true rfl) ⟨⟨rfl, rfl⟩, by decide, hc.1, hc.2⟩ ?_
    have hcd := (E_parcel ((xs (iL + 1))) hI).2 he
    have hne : ¬ (cd2 (0 ≤ (xs (iL + 1)) ∧ (xs (iL + 1)) ≤ 3) (σ 60 1 < 12)) = 0 := by rw [hcd]; decide
    rintro _ _ ⟨-, hy2⟩
    obtain ⟨rfl, rfl⟩ := hy2 hne
    rw [hcd]
    refine r_istore6 (pc := 171) C dL_law_171 ?_
    refine r_aload2 (pc := 173) C dL_law_173 ?_
    refine kL_101 (pc := 174) C (c_X6_thrown l D _ _ _ hT) (hT.f (by decide)) rfl dL_law_174 (Nat.le_of_ble_eq_true rfl) ⟨⟨rfl, rfl⟩, by decide, hc.1, hc.2⟩ ?_
    rintro _ _ ⟨rfl, rfl⟩
    rw [up_self]
    refine r_iload5 (pc := 177) C dL_law_177 ?_
    refine r_icmp_eq (pc := 179) C (tgt := 184) dL_law_179 (by decide) (fun _ => ?_) (fun z => absurd rfl z)
    refine r_iload5 (pc := 184) C dL_law_184 ?_
    refine r_if_ne (pc := 186) C (tgt := 201) dL_law_186 (by decide) (fun _ => ?_) (fun z => absurd z (by decide))
    refine r_goto (pc := 201) C (tgt := 1624) dL_law_201 (by decide) ?_
    exact next _ _ _ _ _ _ _ _ _ hT (INV_60 _ hI)
set_option maxRecDepth 100000 in
set_option maxHeartbeats 1000000 in
theorem lc_stone (C : CX D A RL code 7 ret tb p s m args meth c) (hNC : NC s) (hX : va_X b Ls xs s s.heap) (hbl : b < s.heap.size) (hbA : ¬ A b) (hfl : l.stackTraces = false) (hT : TG nr ng T) (hI : INV nr ng np nb σ) (hi : iL + 6 ≤ Ls) (hL : Ls ≤ 3072) {x5 x6 : Option Value} (hc : cells + 40 ≤ room_1.cells ∧ slots + 400 ≤ room_1.slots) (next : ∀ (T2 : List Nat) (ad2 : Nat → Nat) (σ2 : Mm) (nr2 ng2 np2 nb2 : Nat) (x5 x6 : Option Value), TG nr2 ng2 T2 → INV nr2 ng2 np2 nb2 σ2 → V D A 7 (T2, ad2, cO D ad2 σ2) p l e room_1 s m args below meth c (cells + 40) (slots + 400) Q 1624 [some (.ref b), some (.ref (ad2 0)), some (.ref (ad2 400)), some (.ref (ad2 399)), some (.int (nI iL)), x5, x6] []) : V D A 7 (T, ad, cO D ad σ) p l e room_1 s m args below meth c cells slots Q 204 [some (.ref b), some (.ref (ad 0)), some (.ref (ad 400)), some (.ref (ad 399)), some (.int (nI iL)), x5, x6] [] := by
  have hT0 := hT
  refine r_aload1 (pc := 204) C dL_law_204 ?_
  refine r_aload0 (pc := 205) C dL_law_205 ?_
  refine r_iload4 (pc := 206) C dL_law_206 ?_
  refine r_iconst (pc := 208) C (v := nI 1) dL_law_208 (by decide) ?_
  refine r_iadd (pc := 209) C dL_law_209 ?_
  rw [show nI iL + nI 1 = nI (iL + 1) from nI_add iL 1]
  refine r_sld (pc := 210) C hX hbl hbA (k := iL + 1) rfl (by omega) hL dL_law_210 ?_
  refine r_aload0 (pc := 211) C dL_law_211 ?_
  refine r_iload4 (pc := 212) C dL_law_212 ?_
  refine r_iconst (pc := 214) C (v := nI 2) dL_law_214 (by decide) ?_
  refine r_iadd (pc := 215) C dL_law_215 ?_
  rw [show nI iL + nI 2 = nI (iL + 2) from nI_add iL 2]
  refine r_sld (pc := 216) C hX hbl hbA (k := iL + 2) rfl (by omega) hL dL_law_216 ?_
  refine r_aload0 (pc := 217) C dL_law_217 ?_
  refine r_iload4 (pc := 218) C dL_law_218 ?_
  refine r_iconst (pc := 220) C (v := nI 3) dL_law_220 (by decide) ?_
  refine r_iadd (pc := 221) C dL_law_221 ?_
  rw [show nI iL + nI 3 = nI (iL + 3) from nI_add iL 3]
  refine r_sld (pc := 222) C hX hbl hbA (k := iL + 3) rfl (by omega) hL dL_law_222 ?_
  refine r_aload0 (pc := 223) C dL_law_223 ?_
  refine r_iload4 (pc := 224) C dL_law_224 ?_
  refine r_iconst (pc := 226) C (v := nI 4) dL_law_226 (by decide) ?_
  refine r_iadd (pc := 227) C dL_law_227 ?_
  rw [show nI iL + nI 4 = nI (iL + 4) from nI_add iL 4]
  refine r_sld (pc := 228) C hX hbl hbA (k := iL + 4) rfl (by omega) hL dL_law_228 ?_
  refine r_aload0 (pc := 229) C dL_law_229 ?_
  refine r_iload4 (pc := 230) C dL_law_230 ?_
  refine r_iconst (pc := 232) C (v := nI 5) dL_law_232 (by decide) ?_
  refine r_iadd (pc := 233) C dL_law_233 ?_
  rw [show nI iL + nI 5 = nI (iL + 5) from nI_add iL 5]
  refine r_sld (pc := 234) C hX hbl hbA (k := iL + 5) rfl (by omega) hL dL_law_234 ?_
  refine r_aload3 (pc := 235) C dL_law_235 ?_
  refine r_callW (pc := 236) C hNC (c_L_stone l D T ad σ hT ((xs (iL + 1))) ((xs (iL + 2))) ((xs (iL + 3))) ((xs (iL + 4))) ((xs (iL + 5))) (PP := (fun ov T2 ad2 σ2 => ∃ (b a : Nat), (b < np ∧ (xs (iL + 1)) = nI b ∧ a < 4 ∧ σ 1 b = nI a ∧ ((12 ≤ (xs (iL + 2)) ∧ (xs (iL + 2)) ≤ 9999) ∧ (0 ≤ (xs (iL + 3)) ∧ (xs (iL + 3)) ≤ 9) ∧ (0 ≤ (xs (iL + 4)) ∧ (xs (iL + 4)) ≤ 9) ∧ (0 ≤ (xs (iL + 5)) ∧ (xs (iL + 5)) ≤ 4095)) ∧ nr < 40) ∧ ov = nI nr ∧ σ2 = (stC σ nr b a (xs (iL + 2)) (xs (iL + 3)) (xs (iL + 4)) (xs (iL + 5))) ∧ TG (nr + 1) ng T2 ∧ (∀ k, k ∈ T → ad2 k = ad k))) (c_X5_stone l D hfl T ad σ hT hI.1 hI.2.1 ((xs (iL + 1))) ((xs (iL + 2))) ((xs (iL + 3))) ((xs (iL + 4))) ((xs (iL + 5)))) (fun ov S0 h => by
      obtain ⟨T2, ad2, b9, a9, h1, h2, h3, h4, rfl⟩ := h
      exact ⟨T2, ad2, _, rfl, h2.f (by decide), h3 _ (hT.f (by decide)), b9, a9, h1, h4, rfl, h2, h3⟩) (fun E h => h.elim (fun h => Or.inl h.1) (fun h => h.elim (fun h => Or.inr (Or.inl h.1)) (fun h => Or.inr (Or.inr h.1))))) ml_RL_104 st_L_stone ini_L cdW_L_stone hd_RL_104 rfl rfl (Nat.le_of_ble_eq_true rfl) ⟨rfl, rfl⟩ (by decide) hc dL_law_236 ?_
  intro r S1 hpost
  rcases hpost with ⟨rfl, ov, T2, ad2, σ2, hp, rfl⟩ | ⟨rfl, he, rfl⟩ | ⟨rfl, he, rfl⟩ | ⟨rfl, he, rfl⟩
  · obtain ⟨b9, a9, h1, h4, h5, hT2, had⟩ := hp
    rw [← had 0 (hT.f (by decide)), ← had 400 (hT.f (by decide)), ← had 399 (hT.f (by decide))]
    obtain ⟨hML3, hcd, hval, h60, h99, hI2⟩ := S_stone ((xs (iL + 1))) ((xs (iL + 2))) ((xs (iL + 3))) ((xs (iL + 4))) ((xs (iL + 5))) hI ⟨b9, a9, h1, h4, h5⟩
    refine r_istore5 (pc := 239) C dL_law_239 ?_
    refine r_aload2 (pc := 241) C dL_law_241 ?_
    refine r_aload0 (pc := 242) C dL_law_242 ?_
    refine r_iload4 (pc := 243) C dL_law_243 ?_
    refine r_iconst (pc := 245) C (v := nI 1) dL_law_245 (by decide) ?_
    refine r_iadd (pc := 246) C dL_law_246 ?_
    rw [show nI iL + nI 1 = nI (iL + 1) from nI_add iL 1]
    refine r_sld (pc := 247) C hX hbl hbA (k := iL + 1) rfl (by omega) hL dL_law_247 ?_
    refine r_aload0 (pc := 248) C dL_law_248 ?_
    refine r_iload4 (pc := 249) C dL_law_249 ?_
    refine r_iconst (pc := 251) C (v := nI 2) dL_law_251 (by decide) ?_
    refine r_iadd (pc := 252) C dL_law_252 ?_
    rw [show nI iL + nI 2 = nI (iL + 2) from nI_add iL 2]
    refine r_sld (pc := 253) C hX hbl hbA (k := iL + 2) rfl (by omega) hL dL_law_253 ?_
    refine r_aload0 (pc := 254) C dL_law_254 ?_
    refine r_iload4 (pc := 255) C dL_law_255 ?_
    refine r_iconst (pc := 257) C (v := nI 3) dL_law_257 (by decide) ?_
    refine r_iadd (pc := 258) C dL_law_258 ?_
    rw [show nI iL + nI 3 = nI (iL + 3) from nI_add iL 3]
    refine r_sld (pc := 259) C hX hbl hbA (k := iL + 3) rfl (by omega) hL dL_law_259 ?_
    refine r_aload0 (pc := 260) C dL_law_260 ?_
    refine r_iload4 (pc := 261) C dL_law_261 ?_
    refine r_iconst (pc := 263) C (v := nI 4) dL_law_263 (by decide) ?_
    refine r_iadd (pc := 264) C dL_law_264 ?_
    rw [show nI iL + nI 4 = nI (iL + 4) from nI_add iL 4]
    refine r_sld (pc := 265) C hX hbl hbA (k := iL + 4) rfl (by omega) hL dL_law_265 ?_
    refine r_aload0 (pc := 266) C dL_law_266 ?_
    refine r_iload4 (pc := 267) C dL_law_267 ?_
    refine r_iconst (pc := 269) C (v := nI 5) dL_law_269 (by decide) ?_
    refine r_iadd (pc := 270) C dL_law_270 ?_
    rw [show nI iL + nI 5 = nI (iL + 5) from nI_add iL 5]
    refine r_sld (pc := 271) C hX hbl hbA (k := iL + 5) rfl (by omega) hL dL_law_271 ?_
    refine kL_107 (pc := 272) C (c_X6_stone l D _ _ _ hT2 hML3 ((xs (iL + 1))) ((xs (iL + 2))) ((xs (iL + 3))) ((xs (iL + 4))) ((xs (iL + 5)))) (hT2.f (by decide)) rfl dL_law_272 (Nat.le_of_ble_eq_true rfl) ⟨⟨rfl, rfl⟩, by decide, hc.1, hc.2⟩ ?_
    rintro _ _ ⟨hy1, -⟩
    obtain ⟨rfl, rfl⟩ := hy1 hcd
    refine r_istore6 (pc := 275) C dL_law_275 ?_
    refine r_aload2 (pc := 277) C dL_law_277 ?_
    refine kL_101 (pc := 278) C (c_X6_thrown l D _ _ _ hT2) (hT2.f (by decide)) rfl dL_law_278 (Nat.le_of_ble_eq_true rfl) ⟨⟨rfl, rfl⟩, by decide, hc.1, hc.2⟩ ?_
    rintro _ _ ⟨rfl, rfl⟩
    rw [h60]
    refine r_iload5 (pc := 281) C dL_law_281 ?_
    refine r_icmp_eq (pc := 283) C (tgt := 288) dL_law_283 (by decide) (fun _ => ?_) (fun z => absurd rfl z)
    refine r_iload5 (pc := 288) C dL_law_288 ?_
    refine r_if_ne (pc := 290) C (tgt := 305) dL_law_290 (by decide) (fun z => absurd rfl z) (fun _ => ?_)
    refine r_aload3 (pc := 293) C dL_law_293 ?_
    refine r_iconst (pc := 294) C (v := nI 0) dL_law_294 (by decide) ?_
    refine r_lald (pc := 295) C (t := 399) (k := 0) (hT2.f (by decide)) rfl rfl (by decide) (by decide) dL_law_295 ?_
    rw [h99.trans hval]
    refine r_iload6 (pc := 296) C dL_law_296 ?_
    refine r_i2l (pc := 298) C dL_law_298 ?_
    refine r_lcmp (pc := 299) C dL_law_299 ?_
    rw [lg_self]
    refine r_if_eq (pc := 300) C (tgt := 305) dL_law_300 (by decide) (fun _ => ?_) (fun z => absurd rfl z)
    refine r_goto (pc := 305) C (tgt := 1624) dL_law_305 (by decide) ?_
    exact next _ _ _ _ _ _ _ _ _ hT2 hI2
  · refine r_istore5 (pc := 239) C dL_law_239 ?_
    refine r_aload2 (pc := 241) C dL_law_241 ?_
    refine r_aload0 (pc := 242) C dL_law_242 ?_
    refine r_iload4 (pc := 243) C dL_law_243 ?_
    refine r_iconst (pc := 245) C (v := nI 1) dL_law_245 (by decide) ?_
    refine r_iadd (pc := 246) C dL_law_246 ?_
    rw [show nI iL + nI 1 = nI (iL + 1) from nI_add iL 1]
    refine r_sld (pc := 247) C hX hbl hbA (k := iL + 1) rfl (by omega) hL dL_law_247 ?_
    refine r_aload0 (pc := 248) C dL_law_248 ?_
    refine r_iload4 (pc := 249) C dL_law_249 ?_
    refine r_iconst (pc := 251) C (v := nI 2) dL_law_251 (by decide) ?_
    refine r_iadd (pc := 252) C dL_law_252 ?_
    rw [show nI iL + nI 2 = nI (iL + 2) from nI_add iL 2]
    refine r_sld (pc := 253) C hX hbl hbA (k := iL + 2) rfl (by omega) hL dL_law_253 ?_
    refine r_aload0 (pc := 254) C dL_law_254 ?_
    refine r_iload4 (pc := 255) C dL_law_255 ?_
    refine r_iconst (pc := 257) C (v := nI 3) dL_law_257 (by decide) ?_
    refine r_iadd (pc := 258) C dL_law_258 ?_
    rw [show nI iL + nI 3 = nI (iL + 3) from nI_add iL 3]
    refine r_sld (pc := 259) C hX hbl hbA (k := iL + 3) rfl (by omega) hL dL_law_259 ?_
    refine r_aload0 (pc := 260) C dL_law_260 ?_
    refine r_iload4 (pc := 261) C dL_law_261 ?_
    refine r_iconst (pc := 263) C (v := nI 4) dL_law_263 (by decide) ?_
    refine r_iadd (pc := 264) C dL_law_264 ?_
    rw [show nI iL + nI 4 = nI (iL + 4) from nI_add iL 4]
    refine r_sld (pc := 265) C hX hbl hbA (k := iL + 4) rfl (by omega) hL dL_law_265 ?_
    refine r_aload0 (pc := 266) C dL_law_266 ?_
    refine r_iload4 (pc := 267) C dL_law_267 ?_
    refine r_iconst (pc := 269) C (v := nI 5) dL_law_269 (by decide) ?_
    refine r_iadd (pc := 270) C dL_law_270 ?_
    rw [show nI iL + nI 5 = nI (iL + 5) from nI_add iL 5]
    refine r_sld (pc := 271) C hX hbl hbA (k := iL + 5) rfl (by omega) hL dL_law_271 ?_
    refine kL_107 (pc := 272) C (c_X6_stone l D _ _ _ hT hI.2.2.1 ((xs (iL + 1))) ((xs (iL + 2))) ((xs (iL + 3))) ((xs (iL + 4))) ((xs (iL + 5)))) (hT.f (by decide)) rfl dL_law_272 (Nat.le_of_ble_eq_true rfl) ⟨⟨rfl, rfl⟩, by decide, hc.1, hc.2⟩ ?_
    have hcd := (E_stone ((xs (iL + 1))) ((xs (iL + 2))) ((xs (iL + 3))) ((xs (iL + 4))) ((xs (iL + 5))) hI).1 he
    have hne : ¬ (cd3 (0 ≤ (xs (iL + 1)) ∧ (xs (iL + 1)) < nI np) ((12 ≤ (xs (iL + 2)) ∧ (xs (iL + 2)) ≤ 9999) ∧ (0 ≤ (xs (iL + 3)) ∧ (xs (iL + 3)) ≤ 9) ∧ (0 ≤ (xs (iL + 4)) ∧ (xs (iL + 4)) ≤ 9) ∧ (0 ≤ (xs (iL + 5)) ∧ (xs (iL + 5)) ≤ 4095)) (σ 60 3 < 40)) = 0 := by rw [hcd]; decide
    rintro _ _ ⟨-, hy2⟩
    obtain ⟨rfl, rfl⟩ := hy2 hne
    rw [hcd]
    refine r_istore6 (pc := 275) C dL_law_275 ?_
    refine r_aload2 (pc := 277) C dL_law_277 ?_
    refine kL_101 (pc := 278) C (c_X6_thrown l D _ _ _ hT) (hT.f (by decide)) rfl dL_law_278 (Nat.le_of_ble_eq_true rfl) ⟨⟨rfl, rfl⟩, by decide, hc.1, hc.2⟩ ?_
    rintro _ _ ⟨rfl, rfl⟩
    rw [up_self]
    refine r_iload5 (pc := 281) C dL_law_281 ?_
    refine r_icmp_eq (pc := 283) C (tgt := 288) dL_law_283 (by decide) (fun _ => ?_) (fun z => absurd rfl z)
    refine r_iload5 (pc := 288) C dL_law_288 ?_
    refine r_if_ne (pc := 290) C (tgt := 305) dL_law_290 (by decide) (fun _ => ?_) (fun z => absurd z (by decide))
    refine r_goto (pc := 305) C (tgt := 1624) dL_law_305 (by decide) ?_
    exact next _ _ _ _ _ _ _ _ _ hT (INV_60 _ hI)
  · refine r_istore5 (pc := 239) C dL_law_239 ?_
    refine r_aload2 (pc := 241) C dL_law_241 ?_
    refine r_aload0 (pc := 242) C dL_law_242 ?_
    refine r_iload4 (pc := 243) C dL_law_243 ?_
    refine r_iconst (pc := 245) C (v := nI 1) dL_law_245 (by decide) ?_
    refine r_iadd (pc := 246) C dL_law_246 ?_
    rw [show nI iL + nI 1 = nI (iL + 1) from nI_add iL 1]
    refine r_sld (pc := 247) C hX hbl hbA (k := iL + 1) rfl (by omega) hL dL_law_247 ?_
    refine r_aload0 (pc := 248) C dL_law_248 ?_
    refine r_iload4 (pc := 249) C dL_law_249 ?_
    refine r_iconst (pc := 251) C (v := nI 2) dL_law_251 (by decide) ?_
    refine r_iadd (pc := 252) C dL_law_252 ?_
    rw [show nI iL + nI 2 = nI (iL + 2) from nI_add iL 2]
    refine r_sld (pc := 253) C hX hbl hbA (k := iL + 2) rfl (by omega) hL dL_law_253 ?_
    refine r_aload0 (pc := 254) C dL_law_254 ?_
    refine r_iload4 (pc := 255) C dL_law_255 ?_
    refine r_iconst (pc := 257) C (v := nI 3) dL_law_257 (by decide) ?_
    refine r_iadd (pc := 258) C dL_law_258 ?_
    rw [show nI iL + nI 3 = nI (iL + 3) from nI_add iL 3]
    refine r_sld (pc := 259) C hX hbl hbA (k := iL + 3) rfl (by omega) hL dL_law_259 ?_
    refine r_aload0 (pc := 260) C dL_law_260 ?_
    refine r_iload4 (pc := 261) C dL_law_261 ?_
    refine r_iconst (pc := 263) C (v := nI 4) dL_law_263 (by decide) ?_
    refine r_iadd (pc := 264) C dL_law_264 ?_
    rw [show nI iL + nI 4 = nI (iL + 4) from nI_add iL 4]
    refine r_sld (pc := 265) C hX hbl hbA (k := iL + 4) rfl (by omega) hL dL_law_265 ?_
    refine r_aload0 (pc := 266) C dL_law_266 ?_
    refine r_iload4 (pc := 267) C dL_law_267 ?_
    refine r_iconst (pc := 269) C (v := nI 5) dL_law_269 (by decide) ?_
    refine r_iadd (pc := 270) C dL_law_270 ?_
    rw [show nI iL + nI 5 = nI (iL + 5) from nI_add iL 5]
    refine r_sld (pc := 271) C hX hbl hbA (k := iL + 5) rfl (by omega) hL dL_law_271 ?_
    refine kL_107 (pc := 272) C (c_X6_stone l D _ _ _ hT hI.2.2.1 ((xs (iL + 1))) ((xs (iL + 2))) ((xs (iL + 3))) ((xs (iL + 4))) ((xs (iL + 5)))) (hT.f (by decide)) rfl dL_law_272 (Nat.le_of_ble_eq_true rfl) ⟨⟨rfl, rfl⟩, by decide, hc.1, hc.2⟩ ?_
    have hcd := (E_stone ((xs (iL + 1))) ((xs (iL + 2))) ((xs (iL + 3))) ((xs (iL + 4))) ((xs (iL + 5))) hI).2.1 he
    have hne : ¬ (cd3 (0 ≤ (xs (iL + 1)) ∧ (xs (iL + 1)) < nI np) ((12 ≤ (xs (iL + 2)) ∧ (xs (iL + 2)) ≤ 9999) ∧ (0 ≤ (xs (iL + 3)) ∧ (xs (iL + 3)) ≤ 9) ∧ (0 ≤ (xs (iL + 4)) ∧ (xs (iL + 4)) ≤ 9) ∧ (0 ≤ (xs (iL + 5)) ∧ (xs (iL + 5)) ≤ 4095)) (σ 60 3 < 40)) = 0 := by rw [hcd]; decide
    rintro _ _ ⟨-, hy2⟩
    obtain ⟨rfl, rfl⟩ := hy2 hne
    rw [hcd]
    refine r_istore6 (pc := 275) C dL_law_275 ?_
    refine r_aload2 (pc := 277) C dL_law_277 ?_
    refine kL_101 (pc := 278) C (c_X6_thrown l D _ _ _ hT) (hT.f (by decide)) rfl dL_law_278 (Nat.le_of_ble_eq_true rfl) ⟨⟨rfl, rfl⟩, by decide, hc.1, hc.2⟩ ?_
    rintro _ _ ⟨rfl, rfl⟩
    rw [up_self]
    refine r_iload5 (pc := 281) C dL_law_281 ?_
    refine r_icmp_eq (pc := 283) C (tgt := 288) dL_law_283 (by decide) (fun _ => ?_) (fun z => absurd rfl z)
    refine r_iload5 (pc := 288) C dL_law_288 ?_
    refine r_if_ne (pc := 290) C (tgt := 305) dL_law_290 (by decide) (fun _ => ?_) (fun z => absurd z (by decide))
    refine r_goto (pc := 305) C (tgt := 1624) dL_law_305 (by decide) ?_
    exact next _ _ _ _ _ _ _ _ _ hT (INV_60 _ hI)
  · refine r_istore5 (pc := 239) C dL_law_239 ?_
    refine r_aload2 (pc := 241) C dL_law_241 ?_
    refine r_aload0 (pc := 242) C dL_law_242 ?_
    refine r_iload4 (pc := 243) C dL_law_243 ?_
    refine r_iconst (pc := 245) C (v := nI 1) dL_law_245 (by decide) ?_
    refine r_iadd (pc := 246) C dL_law_246 ?_
    rw [show nI iL + nI 1 = nI (iL + 1) from nI_add iL 1]
    refine r_sld (pc := 247) C hX hbl hbA (k := iL + 1) rfl (by omega) hL dL_law_247 ?_
    refine r_aload0 (pc := 248) C dL_law_248 ?_
    refine r_iload4 (pc := 249) C dL_law_249 ?_
    refine r_iconst (pc := 251) C (v := nI 2) dL_law_251 (by decide) ?_
    refine r_iadd (pc := 252) C dL_law_252 ?_
    rw [show nI iL + nI 2 = nI (iL + 2) from nI_add iL 2]
    refine r_sld (pc := 253) C hX hbl hbA (k := iL + 2) rfl (by omega) hL dL_law_253 ?_
    refine r_aload0 (pc := 254) C dL_law_254 ?_
    refine r_iload4 (pc := 255) C dL_law_255 ?_
    refine r_iconst (pc := 257) C (v := nI 3) dL_law_257 (by decide) ?_
    refine r_iadd (pc := 258) C dL_law_258 ?_
    rw [show nI iL + nI 3 = nI (iL + 3) from nI_add iL 3]
    refine r_sld (pc := 259) C hX hbl hbA (k := iL + 3) rfl (by omega) hL dL_law_259 ?_
    refine r_aload0 (pc := 260) C dL_law_260 ?_
    refine r_iload4 (pc := 261) C dL_law_261 ?_
    refine r_iconst (pc := 263) C (v := nI 4) dL_law_263 (by decide) ?_
    refine r_iadd (pc := 264) C dL_law_264 ?_
    rw [show nI iL + nI 4 = nI (iL + 4) from nI_add iL 4]
    refine r_sld (pc := 265) C hX hbl hbA (k := iL + 4) rfl (by omega) hL dL_law_265 ?_
    refine r_aload0 (pc := 266) C dL_law_266 ?_
    refine r_iload4 (pc := 267) C dL_law_267 ?_
    refine r_iconst (pc := 269) C (v := nI 5) dL_law_269 (by decide) ?_
    refine r_iadd (pc := 270) C dL_law_270 ?_
    rw [show nI iL + nI 5 = nI (iL + 5) from nI_add iL 5]
    refine r_sld (pc := 271) C hX hbl hbA (k := iL + 5) rfl (by omega) hL dL_law_271 ?_
    refine kL_107 (pc := 272) C (c_X6_stone l D _ _ _ hT hI.2.2.1 ((xs (iL + 1))) ((xs (iL + 2))) ((xs (iL + 3))) ((xs (iL + 4))) ((xs (iL + 5)))) (hT.f (by decide)) rfl dL_law_272 (Nat.le_of_ble_eq_true rfl) ⟨⟨rfl, rfl⟩, by decide, hc.1, hc.2⟩ ?_
    have hcd := (E_stone ((xs (iL + 1))) ((xs (iL + 2))) ((xs (iL + 3))) ((xs (iL + 4))) ((xs (iL + 5))) hI).2.2 he
    have hne : ¬ (cd3 (0 ≤ (xs (iL + 1)) ∧ (xs (iL + 1)) < nI np) ((12 ≤ (xs (iL + 2)) ∧ (xs (iL + 2)) ≤ 9999) ∧ (0 ≤ (xs (iL + 3)) ∧ (xs (iL + 3)) ≤ 9) ∧ (0 ≤ (xs (iL + 4)) ∧ (xs (iL + 4)) ≤ 9) ∧ (0 ≤ (xs (iL + 5)) ∧ (xs (iL + 5)) ≤ 4095)) (σ 60 3 < 40)) = 0 := by rw [hcd]; decide
    rintro _ _ ⟨-, hy2⟩
    obtain ⟨rfl, rfl⟩ := hy2 hne
    rw [hcd]
    refine r_istore6 (pc := 275) C dL_law_275 ?_
    refine r_aload2 (pc := 277) C dL_law_277 ?_
    refine kL_101 (pc := 278) C (c_X6_thrown l D _ _ _ hT) (hT.f (by decide)) rfl dL_law_278 (Nat.le_of_ble_eq_true rfl) ⟨⟨rfl, rfl⟩, by decide, hc.1, hc.2⟩ ?_
    rintro _ _ ⟨rfl, rfl⟩
    rw [up_self]
    refine r_iload5 (pc := 281) C dL_law_281 ?_
    refine r_icmp_eq (pc := 283) C (tgt := 288) dL_law_283 (by decide) (fun _ => ?_) (fun z => absurd rfl z)
    refine r_iload5 (pc := 288) C dL_law_288 ?_
    refine r_if_ne (pc := 290) C (tgt := 305) dL_law_290 (by decide) (fun _ => ?_) (fun z => absurd z (by decide))
    refine r_goto (pc := 305) C (tgt := 1624) dL_law_305 (by decide) ?_
    exact next _ _ _ _ _ _ _ _ _ hT (INV_60 _ hI)
set_option maxRecDepth 100000 in
set_option maxHeartbeats 1000000 in
theorem lc_drift (C : CX D A RL code 7 ret tb p s m args meth c) (hNC : NC s) (hX : va_X b Ls xs s s.heap) (hbl : b < s.heap.size) (hbA : ¬ A b) (hfl : l.stackTraces = false) (hT : TG nr ng T) (hI : INV nr ng np nb σ) (hi : iL + 6 ≤ Ls) (hL : Ls ≤ 3072) {x5 x6 : Option Value} (hc : cells + 40 ≤ room_1.cells ∧ slots + 400 ≤ room_1.slots) (next : ∀ (T2 : List Nat) (ad2 : Nat → Nat) (σ2 : Mm) (nr2 ng2 np2 nb2 : Nat) (x5 x6 : Option Value), TG nr2 ng2 T2 → INV nr2 ng2 np2 nb2 σ2 → V D A 7 (T2, ad2, cO D ad2 σ2) p l e room_1 s m args below meth c (cells + 40) (slots + 400) Q 1624 [some (.ref b), some (.ref (ad2 0)), some (.ref (ad2 400)), some (.ref (ad2 399)), some (.int (nI iL)), x5, x6] []) : V D A 7 (T, ad, cO D ad σ) p l e room_1 s m args below meth c cells slots Q 308 [some (.ref b), some (.ref (ad 0)), some (.ref (ad 400)), some (.ref (ad 399)), some (.int (nI iL)), x5, x6] [] := by
  have hT0 := hT
  refine r_aload1 (pc := 308) C dL_law_308 ?_
  refine r_aload0 (pc := 309) C dL_law_309 ?_
  refine r_iload4 (pc := 310) C dL_law_310 ?_
  refine r_iconst (pc := 312) C (v := nI 1) dL_law_312 (by decide) ?_
  refine r_iadd (pc := 313) C dL_law_313 ?_
  rw [show nI iL + nI 1 = nI (iL + 1) from nI_add iL 1]
  refine r_sld (pc := 314) C hX hbl hbA (k := iL + 1) rfl (by omega) hL dL_law_314 ?_
  refine r_aload0 (pc := 315) C dL_law_315 ?_
  refine r_iload4 (pc := 316) C dL_law_316 ?_
  refine r_iconst (pc := 318) C (v := nI 2) dL_law_318 (by decide) ?_
  refine r_iadd (pc := 319) C dL_law_319 ?_
  rw [show nI iL + nI 2 = nI (iL + 2) from nI_add iL 2]
  refine r_sld (pc := 320) C hX hbl hbA (k := iL + 2) rfl (by omega) hL dL_law_320 ?_
  refine r_aload3 (pc := 321) C dL_law_321 ?_
  refine r_callW (pc := 322) C hNC (c_L_drift l D T ad σ hT ((xs (iL + 1))) ((xs (iL + 2))) (PP := (fun ov T2 ad2 σ2 => T2 = T ∧ ad2 = ad ∧ ∃ j, j < 4 ∧ (xs (iL + 1)) = nI j ∧ ((-2) ≤ (xs (iL + 2)) ∧ (xs (iL + 2)) ≤ 2) ∧ ov = σ 3 j ∧ σ2 = (up σ 3 j (xs (iL + 2))))) (c_X5_drift l D hfl T ad σ hT hI.1 ((xs (iL + 1))) ((xs (iL + 2)))) (fun ov S0 h => by
      obtain ⟨z0, g1, g2, g3, g4, rfl⟩ := h
      exact ⟨T, ad, _, rfl, hT.f (by decide), rfl, rfl, rfl, z0, g1, g2, g3, g4, rfl⟩) (fun E h => h.elim (fun h => Or.inl h.1) (fun h => Or.inr h.1))) ml_RL_108 st_L_drift ini_L cdW_L_drift hd_RL_108 rfl rfl (Nat.le_of_ble_eq_true rfl) ⟨rfl, rfl⟩ (by decide) hc dL_law_322 ?_
  intro r S1 hpost
  rcases hpost with ⟨rfl, ov, _, _, σ2, ⟨rfl, rfl, hp⟩, rfl⟩ | ⟨rfl, he, rfl⟩ | ⟨rfl, he, rfl⟩
  · obtain ⟨hML3, hcd, hval, h60, h99, hI2⟩ := S_drift ((xs (iL + 1))) ((xs (iL + 2))) hI hp
    refine r_istore5 (pc := 325) C dL_law_325 ?_
    refine r_aload2 (pc := 327) C dL_law_327 ?_
    refine r_aload0 (pc := 328) C dL_law_328 ?_
    refine r_iload4 (pc := 329) C dL_law_329 ?_
    refine r_iconst (pc := 331) C (v := nI 1) dL_law_331 (by decide) ?_
    refine r_iadd (pc := 332) C dL_law_332 ?_
    rw [show nI iL + nI 1 = nI (iL + 1) from nI_add iL 1]
    refine r_sld (pc := 333) C hX hbl hbA (k := iL + 1) rfl (by omega) hL dL_law_333 ?_
    refine r_aload0 (pc := 334) C dL_law_334 ?_
    refine r_iload4 (pc := 335) C dL_law_335 ?_
    refine r_iconst (pc := 337) C (v := nI 2) dL_law_337 (by decide) ?_
    refine r_iadd (pc := 338) C dL_law_338 ?_
    rw [show nI iL + nI 2 = nI (iL + 2) from nI_add iL 2]
    refine r_sld (pc := 339) C hX hbl hbA (k := iL + 2) rfl (by omega) hL dL_law_339 ?_
    refine kL_111 (pc := 340) C (c_X6_drift l D _ _ _ hT hML3 ((xs (iL + 1))) ((xs (iL + 2)))) (hT.f (by decide)) rfl dL_law_340 (Nat.le_of_ble_eq_true rfl) ⟨⟨rfl, rfl⟩, by decide, hc.1, hc.2⟩ ?_
    rintro _ _ ⟨hy1, -⟩
    obtain ⟨rfl, rfl⟩ := hy1 hcd
    refine r_istore6 (pc := 343) C dL_law_343 ?_
    refine r_aload2 (pc := 345) C dL_law_345 ?_
    refine kL_101 (pc := 346) C (c_X6_thrown l D _ _ _ hT) (hT.f (by decide)) rfl dL_law_346 (Nat.le_of_ble_eq_true rfl) ⟨⟨rfl, rfl⟩, by decide, hc.1, hc.2⟩ ?_
    rintro _ _ ⟨rfl, rfl⟩
    rw [h60]
    refine r_iload5 (pc := 349) C dL_law_349 ?_
    refine r_icmp_eq (pc := 351) C (tgt := 356) dL_law_351 (by decide) (fun _ => ?_) (fun z => absurd rfl z)
    refine r_iload5 (pc := 356) C dL_law_356 ?_
    refine r_if_ne (pc := 358) C (tgt := 373) dL_law_358 (by decide) (fun z => absurd rfl z) (fun _ => ?_)
    refine r_aload3 (pc := 361) C dL_law_361 ?_
    refine r_iconst (pc := 362) C (v := nI 0) dL_law_362 (by decide) ?_
    refine r_lald (pc := 363) C (t := 399) (k := 0) (hT.f (by decide)) rfl rfl (by decide) (by decide) dL_law_363 ?_
    rw [h99.trans hval]
    refine r_iload6 (pc := 364) C dL_law_364 ?_
    refine r_i2l (pc := 366) C dL_law_366 ?_
    refine r_lcmp (pc := 367) C dL_law_367 ?_
    rw [lg_self]
    refine r_if_eq (pc := 368) C (tgt := 373) dL_law_368 (by decide) (fun _ => ?_) (fun z => absurd rfl z)
    refine r_goto (pc := 373) C (tgt := 1624) dL_law_373 (by decide) ?_
    exact next _ _ _ _ _ _ _ _ _ hT hI2
  · refine r_istore5 (pc := 325) C dL_law_325 ?_
    refine r_aload2 (pc := 327) C dL_law_327 ?_
    refine r_aload0 (pc := 328) C dL_law_328 ?_
    refine r_iload4 (pc := 329) C dL_law_329 ?_
    refine r_iconst (pc := 331) C (v := nI 1) dL_law_331 (by decide) ?_
    refine r_iadd (pc := 332) C dL_law_332 ?_
    rw [show nI iL + nI 1 = nI (iL + 1) from nI_add iL 1]
    refine r_sld (pc := 333) C hX hbl hbA (k := iL + 1) rfl (by omega) hL dL_law_333 ?_
    refine r_aload0 (pc := 334) C dL_law_334 ?_
    refine r_iload4 (pc := 335) C dL_law_335 ?_
    refine r_iconst (pc := 337) C (v := nI 2) dL_law_337 (by decide) ?_
    refine r_iadd (pc := 338) C dL_law_338 ?_
    rw [show nI iL + nI 2 = nI (iL + 2) from nI_add iL 2]
    refine r_sld (pc := 339) C hX hbl hbA (k := iL + 2) rfl (by omega) hL dL_law_339 ?_
    refine kL_111 (pc := 340) C (c_X6_drift l D _ _ _ hT hI.2.2.1 ((xs (iL + 1))) ((xs (iL + 2)))) (hT.f (by decide)) rfl dL_law_340 (Nat.le_of_ble_eq_true rfl) ⟨⟨rfl, rfl⟩, by decide, hc.1, hc.2⟩ ?_
    have hcd := (E_drift ((xs (iL + 1))) ((xs (iL + 2))) hI).1 he
    have hne : ¬ (cd2 (0 ≤ (xs (iL + 1)) ∧ (xs (iL + 1)) ≤ 3) ((-2) ≤ (xs (iL + 2)) ∧ (xs (iL + 2)) ≤ 2)) = 0 := by rw [hcd]; decide
    rintro _ _ ⟨-, hy2⟩
    obtain ⟨rfl, rfl⟩ := hy2 hne
    rw [hcd]
    refine r_istore6 (pc := 343) C dL_law_343 ?_
    refine r_aload2 (pc := 345) C dL_law_345 ?_
    refine kL_101 (pc := 346) C (c_X6_thrown l D _ _ _ hT) (hT.f (by decide)) rfl dL_law_346 (Nat.le_of_ble_eq_true rfl) ⟨⟨rfl, rfl⟩, by decide, hc.1, hc.2⟩ ?_
    rintro _ _ ⟨rfl, rfl⟩
    rw [up_self]
    refine r_iload5 (pc := 349) C dL_law_349 ?_
    refine r_icmp_eq (pc := 351) C (tgt := 356) dL_law_351 (by decide) (fun _ => ?_) (fun z => absurd rfl z)
    refine r_iload5 (pc := 356) C dL_law_356 ?_
    refine r_if_ne (pc := 358) C (tgt := 373) dL_law_358 (by decide) (fun _ => ?_) (fun z => absurd z (by decide))
    refine r_goto (pc := 373) C (tgt := 1624) dL_law_373 (by decide) ?_
    exact next _ _ _ _ _ _ _ _ _ hT (INV_60 _ hI)
  · refine r_istore5 (pc := 325) C dL_law_325 ?_
    refine r_aload2 (pc := 327) C dL_law_327 ?_
    refine r_aload0 (pc := 328) C dL_law_328 ?_
    refine r_iload4 (pc := 329) C dL_law_329 ?_
    refine r_iconst (pc := 331) C (v := nI 1) dL_law_331 (by decide) ?_
    refine r_iadd (pc := 332) C dL_law_332 ?_
    rw [show nI iL + nI 1 = nI (iL + 1) from nI_add iL 1]
    refine r_sld (pc := 333) C hX hbl hbA (k := iL + 1) rfl (by omega) hL dL_law_333 ?_
    refine r_aload0 (pc := 334) C dL_law_334 ?_
    refine r_iload4 (pc := 335) C dL_law_335 ?_
    refine r_iconst (pc := 337) C (v := nI 2) dL_law_337 (by decide) ?_
    refine r_iadd (pc := 338) C dL_law_338 ?_
    rw [show nI iL + nI 2 = nI (iL + 2) from nI_add iL 2]
    refine r_sld (pc := 339) C hX hbl hbA (k := iL + 2) rfl (by omega) hL dL_law_339 ?_
    refine kL_111 (pc := 340) C (c_X6_drift l D _ _ _ hT hI.2.2.1 ((xs (iL + 1))) ((xs (iL + 2)))) (hT.f (by decide)) rfl dL_law_340 (Nat.le_of_ble_eq_true rfl) ⟨⟨rfl, rfl⟩, by decide, hc.1, hc.2⟩ ?_
    have hcd := (E_drift ((xs (iL + 1))) ((xs (iL + 2))) hI).2 he
    have hne : ¬ (cd2 (0 ≤ (xs (iL + 1)) ∧ (xs (iL + 1)) ≤ 3) ((-2) ≤ (xs (iL + 2)) ∧ (xs (iL + 2)) ≤ 2)) = 0 := by rw [hcd]; decide
    rintro _ _ ⟨-, hy2⟩
    obtain ⟨rfl, rfl⟩ := hy2 hne
    rw [hcd]
    refine r_istore6 (pc := 343) C dL_law_343 ?_
    refine r_aload2 (pc := 345) C dL_law_345 ?_
    refine kL_101 (pc := 346) C (c_X6_thrown l D _ _ _ hT) (hT.f (by decide)) rfl dL_law_346 (Nat.le_of_ble_eq_true rfl) ⟨⟨rfl, rfl⟩, by decide, hc.1, hc.2⟩ ?_
    rintro _ _ ⟨rfl, rfl⟩
    rw [up_self]
    refine r_iload5 (pc := 349) C dL_law_349 ?_
    refine r_icmp_eq (pc := 351) C (tgt := 356) dL_law_351 (by decide) (fun _ => ?_) (fun z => absurd rfl z)
    refine r_iload5 (pc := 356) C dL_law_356 ?_
    refine r_if_ne (pc := 358) C (tgt := 373) dL_law_358 (by decide) (fun _ => ?_) (fun z => absurd z (by decide))
    refine r_goto (pc := 373) C (tgt := 1624) dL_law_373 (by decide) ?_
    exact next _ _ _ _ _ _ _ _ _ hT (INV_60 _ hI)
set_option maxRecDepth 100000 in
set_option maxHeartbeats 1000000 in
theorem lc_sort (C : CX D A RL code 7 ret tb p s m args meth c) (hNC : NC s) (hX : va_X b Ls xs s s.heap) (hbl : b < s.heap.size) (hbA : ¬ A b) (hfl : l.stackTraces = false) (hT : TG nr ng T) (hI : INV nr ng np nb σ) (hi : iL + 6 ≤ Ls) (hL : Ls ≤ 3072) {x5 x6 : Option Value} (hc : cells + 40 ≤ room_1.cells ∧ slots + 400 ≤ room_1.slots) (next : ∀ (T2 : List Nat) (ad2 : Nat → Nat) (σ2 : Mm) (nr2 ng2 np2 nb2 : Nat) (x5 x6 : Option Value), TG nr2 ng2 T2 → INV nr2 ng2 np2 nb2 σ2 → V D A 7 (T2, ad2, cO D ad2 σ2) p l e room_1 s m args below meth c (cells + 40) (slots + 400) Q 1624 [some (.ref b), some (.ref (ad2 0)), some (.ref (ad2 400)), some (.ref (ad2 399)), some (.int (nI iL)), x5, x6] []) : V D A 7 (T, ad, cO D ad σ) p l e room_1 s m args below meth c cells slots Q 376 [some (.ref b), some (.ref (ad 0)), some (.ref (ad 400)), some (.ref (ad 399)), some (.int (nI iL)), x5, x6] [] := by
  have hT0 := hT
  refine r_aload1 (pc := 376) C dL_law_376 ?_
  refine r_aload0 (pc := 377) C dL_law_377 ?_
  refine r_iload4 (pc := 378) C dL_law_378 ?_
  refine r_iconst (pc := 380) C (v := nI 1) dL_law_380 (by decide) ?_
  refine r_iadd (pc := 381) C dL_law_381 ?_
  rw [show nI iL + nI 1 = nI (iL + 1) from nI_add iL 1]
  refine r_sld (pc := 382) C hX hbl hbA (k := iL + 1) rfl (by omega) hL dL_law_382 ?_
  refine r_aload0 (pc := 383) C dL_law_383 ?_
  refine r_iload4 (pc := 384) C dL_law_384 ?_
  refine r_iconst (pc := 386) C (v := nI 2) dL_law_386 (by decide) ?_
  refine r_iadd (pc := 387) C dL_law_387 ?_
  rw [show nI iL + nI 2 = nI (iL + 2) from nI_add iL 2]
  refine r_sld (pc := 388) C hX hbl hbA (k := iL + 2) rfl (by omega) hL dL_law_388 ?_
  refine r_aload3 (pc := 389) C dL_law_389 ?_
  refine r_callW (pc := 390) C hNC (c_L_sort l D T ad σ hT ((xs (iL + 1))) ((xs (iL + 2))) (PP := (fun ov T2 ad2 σ2 => T2 = T ∧ ad2 = ad ∧ ∃ j i, j < 4 ∧ i < nr ∧ (xs (iL + 1)) = nI j ∧ (xs (iL + 2)) = nI i ∧ (σ 28 i = 0 ∧ ¬ 3 ≤ σ 33 i ∧ (σ 32 i >>> (nI j &&& 31)) &&& 1 = 0) ∧ ov = (mxI 0 (mnI 18 (σ 24 i + σ 25 i + σ 3 j))) ∧ σ2 = (up (up (up (up (up σ 32 i (σ 32 i ||| ((1 : Int32) <<< (nI j &&& 31)))) 33 i (σ 33 i + 1)) 34 i (iF (σ 33 i = 0) (mxI 0 (mnI 18 (σ 24 i + σ 25 i + σ 3 j))) (σ 34 i))) 35 i (iF (σ 33 i = 1) (mxI 0 (mnI 18 (σ 24 i + σ 25 i + σ 3 j))) (σ 35 i))) 36 i (iF (¬ σ 33 i = 0 ∧ ¬ σ 33 i = 1) (mxI 0 (mnI 18 (σ 24 i + σ 25 i + σ 3 j))) (σ 36 i))))) (c_X5_sort l D hfl T ad σ hT hI.1 ((xs (iL + 1))) ((xs (iL + 2)))) (fun ov S0 h => by
      obtain ⟨z0, z1, g1, g2, g3, g4, g5, g6, rfl⟩ := h
      exact ⟨T, ad, _, rfl, hT.f (by decide), rfl, rfl, rfl, z0, z1, g1, g2, g3, g4, g5, g6, rfl⟩) (fun E h => h.elim (fun h => Or.inl h.1) (fun h => Or.inr h.1))) ml_RL_112 st_L_sort ini_L cdW_L_sort hd_RL_112 rfl rfl (Nat.le_of_ble_eq_true rfl) ⟨rfl, rfl⟩ (by decide) hc dL_law_390 ?_
  intro r S1 hpost
  rcases hpost with ⟨rfl, ov, _, _, σ2, ⟨rfl, rfl, hp⟩, rfl⟩ | ⟨rfl, he, rfl⟩ | ⟨rfl, he, rfl⟩
  · obtain ⟨hML3, hcd, hval, h60, h99, hI2⟩ := S_sort ((xs (iL + 1))) ((xs (iL + 2))) hI hp
    refine r_istore5 (pc := 393) C dL_law_393 ?_
    refine r_aload2 (pc := 395) C dL_law_395 ?_
    refine r_aload0 (pc := 396) C dL_law_396 ?_
    refine r_iload4 (pc := 397) C dL_law_397 ?_
    refine r_iconst (pc := 399) C (v := nI 1) dL_law_399 (by decide) ?_
    refine r_iadd (pc := 400) C dL_law_400 ?_
    rw [show nI iL + nI 1 = nI (iL + 1) from nI_add iL 1]
    refine r_sld (pc := 401) C hX hbl hbA (k := iL + 1) rfl (by omega) hL dL_law_401 ?_
    refine r_aload0 (pc := 402) C dL_law_402 ?_
    refine r_iload4 (pc := 403) C dL_law_403 ?_
    refine r_iconst (pc := 405) C (v := nI 2) dL_law_405 (by decide) ?_
    refine r_iadd (pc := 406) C dL_law_406 ?_
    rw [show nI iL + nI 2 = nI (iL + 2) from nI_add iL 2]
    refine r_sld (pc := 407) C hX hbl hbA (k := iL + 2) rfl (by omega) hL dL_law_407 ?_
    refine kL_114 (pc := 408) C (c_X6_sort l D _ _ _ hT hML3 ((xs (iL + 1))) ((xs (iL + 2)))) (hT.f (by decide)) rfl dL_law_408 (Nat.le_of_ble_eq_true rfl) ⟨⟨rfl, rfl⟩, by decide, hc.1, hc.2⟩ ?_
    rintro _ _ ⟨hy1, -⟩
    obtain ⟨rfl, rfl⟩ := hy1 hcd
    refine r_istore6 (pc := 411) C dL_law_411 ?_
    refine r_aload2 (pc := 413) C dL_law_413 ?_
    refine kL_101 (pc := 414) C (c_X6_thrown l D _ _ _ hT) (hT.f (by decide)) rfl dL_law_414 (Nat.le_of_ble_eq_true rfl) ⟨⟨rfl, rfl⟩, by decide, hc.1, hc.2⟩ ?_
    rintro _ _ ⟨rfl, rfl⟩
    rw [h60]
    refine r_iload5 (pc := 417) C dL_law_417 ?_
    refine r_icmp_eq (pc := 419) C (tgt := 424) dL_law_419 (by decide) (fun _ => ?_) (fun z => absurd rfl z)
    refine r_iload5 (pc := 424) C dL_law_424 ?_
    refine r_if_ne (pc := 426) C (tgt := 441) dL_law_426 (by decide) (fun z => absurd rfl z) (fun _ => ?_)
    refine r_aload3 (pc := 429) C dL_law_429 ?_
    refine r_iconst (pc := 430) C (v := nI 0) dL_law_430 (by decide) ?_
    refine r_lald (pc := 431) C (t := 399) (k := 0) (hT.f (by decide)) rfl rfl (by decide) (by decide) dL_law_431 ?_
    rw [h99.trans hval]
    refine r_iload6 (pc := 432) C dL_law_432 ?_
    refine r_i2l (pc := 434) C dL_law_434 ?_
    refine r_lcmp (pc := 435) C dL_law_435 ?_
    rw [lg_self]
    refine r_if_eq (pc := 436) C (tgt := 441) dL_law_436 (by decide) (fun _ => ?_) (fun z => absurd rfl z)
    refine r_goto (pc := 441) C (tgt := 1624) dL_law_441 (by decide) ?_
    exact next _ _ _ _ _ _ _ _ _ hT hI2
  · refine r_istore5 (pc := 393) C dL_law_393 ?_
    refine r_aload2 (pc := 395) C dL_law_395 ?_
    refine r_aload0 (pc := 396) C dL_law_396 ?_
    refine r_iload4 (pc := 397) C dL_law_397 ?_
    refine r_iconst (pc := 399) C (v := nI 1) dL_law_399 (by decide) ?_
    refine r_iadd (pc := 400) C dL_law_400 ?_
    rw [show nI iL + nI 1 = nI (iL + 1) from nI_add iL 1]
    refine r_sld (pc := 401) C hX hbl hbA (k := iL + 1) rfl (by omega) hL dL_law_401 ?_
    refine r_aload0 (pc := 402) C dL_law_402 ?_
    refine r_iload4 (pc := 403) C dL_law_403 ?_
    refine r_iconst (pc := 405) C (v := nI 2) dL_law_405 (by decide) ?_
    refine r_iadd (pc := 406) C dL_law_406 ?_
    rw [show nI iL + nI 2 = nI (iL + 2) from nI_add iL 2]
    refine r_sld (pc := 407) C hX hbl hbA (k := iL + 2) rfl (by omega) hL dL_law_407 ?_
    refine kL_114 (pc := 408) C (c_X6_sort l D _ _ _ hT hI.2.2.1 ((xs (iL + 1))) ((xs (iL + 2)))) (hT.f (by decide)) rfl dL_law_408 (Nat.le_of_ble_eq_true rfl) ⟨⟨rfl, rfl⟩, by decide, hc.1, hc.2⟩ ?_
    have hcd := (E_sort ((xs (iL + 1))) ((xs (iL + 2))) hI).1 he
    have hne : ¬ (cd2 ((0 ≤ (xs (iL + 1)) ∧ (xs (iL + 1)) ≤ 3) ∧ (0 ≤ (xs (iL + 2)) ∧ (xs (iL + 2)) < nI nr)) (σ 69 (xs (iL + 2)).toNatClampNeg = 0 ∧ (σ 75 (xs (iL + 2)).toNatClampNeg >>> ((xs (iL + 1)) &&& 31)) &&& 1 = 0 ∧ σ 73 (xs (iL + 2)).toNatClampNeg < 3)) = 0 := by rw [hcd]; decide
    rintro _ _ ⟨-, hy2⟩
    obtain ⟨rfl, rfl⟩ := hy2 hne
    rw [hcd]
    refine r_istore6 (pc := 411) C dL_law_411 ?_
    refine r_aload2 (pc := 413) C dL_law_413 ?_
    refine kL_101 (pc := 414) C (c_X6_thrown l D _ _ _ hT) (hT.f (by decide)) rfl dL_law_414 (Nat.le_of_ble_eq_true rfl) ⟨⟨rfl, rfl⟩, by decide, hc.1, hc.2⟩ ?_
    rintro _ _ ⟨rfl, rfl⟩
    rw [up_self]
    refine r_iload5 (pc := 417) C dL_law_417 ?_
    refine r_icmp_eq (pc := 419) C (tgt := 424) dL_law_419 (by decide) (fun _ => ?_) (fun z => absurd rfl z)
    refine r_iload5 (pc := 424) C dL_law_424 ?_
    refine r_if_ne (pc := 426) C (tgt := 441) dL_law_426 (by decide) (fun _ => ?_) (fun z => absurd z (by decide))
    refine r_goto (pc := 441) C (tgt := 1624) dL_law_441 (by decide) ?_
    exact next _ _ _ _ _ _ _ _ _ hT (INV_60 _ hI)
  · refine r_istore5 (pc := 393) C dL_law_393 ?_
    refine r_aload2 (pc := 395) C dL_law_395 ?_
    refine r_aload0 (pc := 396) C dL_law_396 ?_
    refine r_iload4 (pc := 397) C dL_law_397 ?_
    refine r_iconst (pc := 399) C (v := nI 1) dL_law_399 (by decide) ?_
    refine r_iadd (pc := 400) C dL_law_400 ?_
    rw [show nI iL + nI 1 = nI (iL + 1) from nI_add iL 1]
    refine r_sld (pc := 401) C hX hbl hbA (k := iL + 1) rfl (by omega) hL dL_law_401 ?_
    refine r_aload0 (pc := 402) C dL_law_402 ?_
    refine r_iload4 (pc := 403) C dL_law_403 ?_
    refine r_iconst (pc := 405) C (v := nI 2) dL_law_405 (by decide) ?_
    refine r_iadd (pc := 406) C dL_law_406 ?_
    rw [show nI iL + nI 2 = nI (iL + 2) from nI_add iL 2]
    refine r_sld (pc := 407) C hX hbl hbA (k := iL + 2) rfl (by omega) hL dL_law_407 ?_
    refine kL_114 (pc := 408) C (c_X6_sort l D _ _ _ hT hI.2.2.1 ((xs (iL + 1))) ((xs (iL + 2)))) (hT.f (by decide)) rfl dL_law_408 (Nat.le_of_ble_eq_true rfl) ⟨⟨rfl, rfl⟩, by decide, hc.1, hc.2⟩ ?_
    have hcd := (E_sort ((xs (iL + 1))) ((xs (iL + 2))) hI).2 he
    have hne : ¬ (cd2 ((0 ≤ (xs (iL + 1)) ∧ (xs (iL + 1)) ≤ 3) ∧ (0 ≤ (xs (iL + 2)) ∧ (xs (iL + 2)) < nI nr)) (σ 69 (xs (iL + 2)).toNatClampNeg = 0 ∧ (σ 75 (xs (iL + 2)).toNatClampNeg >>> ((xs (iL + 1)) &&& 31)) &&& 1 = 0 ∧ σ 73 (xs (iL + 2)).toNatClampNeg < 3)) = 0 := by rw [hcd]; decide
    rintro _ _ ⟨-, hy2⟩
    obtain ⟨rfl, rfl⟩ := hy2 hne
    rw [hcd]
    refine r_istore6 (pc := 411) C dL_law_411 ?_
    refine r_aload2 (pc := 413) C dL_law_413 ?_
    refine kL_101 (pc := 414) C (c_X6_thrown l D _ _ _ hT) (hT.f (by decide)) rfl dL_law_414 (Nat.le_of_ble_eq_true rfl) ⟨⟨rfl, rfl⟩, by decide, hc.1, hc.2⟩ ?_
    rintro _ _ ⟨rfl, rfl⟩
    rw [up_self]
    refine r_iload5 (pc := 417) C dL_law_417 ?_
    refine r_icmp_eq (pc := 419) C (tgt := 424) dL_law_419 (by decide) (fun _ => ?_) (fun z => absurd rfl z)
    refine r_iload5 (pc := 424) C dL_law_424 ?_
    refine r_if_ne (pc := 426) C (tgt := 441) dL_law_426 (by decide) (fun _ => ?_) (fun z => absurd z (by decide))
    refine r_goto (pc := 441) C (tgt := 1624) dL_law_441 (by decide) ?_
    exact next _ _ _ _ _ _ _ _ _ hT (INV_60 _ hI)
set_option maxRecDepth 100000 in
set_option maxHeartbeats 1000000 in
theorem lc_price (C : CX D A RL code 7 ret tb p s m args meth c) (hNC : NC s) (hX : va_X b Ls xs s s.heap) (hbl : b < s.heap.size) (hbA : ¬ A b) (hfl : l.stackTraces = false) (hT : TG nr ng T) (hI : INV nr ng np nb σ) (hi : iL + 6 ≤ Ls) (hL : Ls ≤ 3072) {x5 x6 : Option Value} (hc : cells + 40 ≤ room_1.cells ∧ slots + 400 ≤ room_1.slots) (next : ∀ (T2 : List Nat) (ad2 : Nat → Nat) (σ2 : Mm) (nr2 ng2 np2 nb2 : Nat) (x5 x6 : Option Value), TG nr2 ng2 T2 → INV nr2 ng2 np2 nb2 σ2 → V D A 7 (T2, ad2, cO D ad2 σ2) p l e room_1 s m args below meth c (cells + 40) (slots + 400) Q 1624 [some (.ref b), some (.ref (ad2 0)), some (.ref (ad2 400)), some (.ref (ad2 399)), some (.int (nI iL)), x5, x6] []) : V D A 7 (T, ad, cO D ad σ) p l e room_1 s m args below meth c cells slots Q 444 [some (.ref b), some (.ref (ad 0)), some (.ref (ad 400)), some (.ref (ad 399)), some (.int (nI iL)), x5, x6] [] := by
  have hT0 := hT
  refine r_aload1 (pc := 444) C dL_law_444 ?_
  refine r_aload0 (pc := 445) C dL_law_445 ?_
  refine r_iload4 (pc := 446) C dL_law_446 ?_
  refine r_iconst (pc := 448) C (v := nI 1) dL_law_448 (by decide) ?_
  refine r_iadd (pc := 449) C dL_law_449 ?_
  rw [show nI iL + nI 1 = nI (iL + 1) from nI_add iL 1]
  refine r_sld (pc := 450) C hX hbl hbA (k := iL + 1) rfl (by omega) hL dL_law_450 ?_
  refine r_aload0 (pc := 451) C dL_law_451 ?_
  refine r_iload4 (pc := 452) C dL_law_452 ?_
  refine r_iconst (pc := 454) C (v := nI 2) dL_law_454 (by decide) ?_
  refine r_iadd (pc := 455) C dL_law_455 ?_
  rw [show nI iL + nI 2 = nI (iL + 2) from nI_add iL 2]
  refine r_sld (pc := 456) C hX hbl hbA (k := iL + 2) rfl (by omega) hL dL_law_456 ?_
  refine r_aload0 (pc := 457) C dL_law_457 ?_
  refine r_iload4 (pc := 458) C dL_law_458 ?_
  refine r_iconst (pc := 460) C (v := nI 3) dL_law_460 (by decide) ?_
  refine r_iadd (pc := 461) C dL_law_461 ?_
  rw [show nI iL + nI 3 = nI (iL + 3) from nI_add iL 3]
  refine r_sld (pc := 462) C hX hbl hbA (k := iL + 3) rfl (by omega) hL dL_law_462 ?_
  refine r_aload3 (pc := 463) C dL_law_463 ?_
  refine r_callW (pc := 464) C hNC (c_L_price l D T ad σ hT ((xs (iL + 1))) ((xs (iL + 2))) ((xs (iL + 3))) (PP := (fun ov T2 ad2 σ2 => T2 = T ∧ ad2 = ad ∧ ∃ j i, j < 4 ∧ i < 19 ∧ (xs (iL + 1)) = nI j ∧ (xs (iL + 2)) = nI i ∧ (1 ≤ (xs (iL + 3)) ∧ (xs (iL + 3)) ≤ 99999) ∧ ov = σ 5 (19 * j + i) ∧ σ2 = (up σ 5 (19 * j + i) (xs (iL + 3))))) (c_X5_price l D hfl T ad σ hT hI.1 ((xs (iL + 1))) ((xs (iL + 2))) ((xs (iL + 3)))) (fun ov S0 h => by
      obtain ⟨z0, z1, g1, g2, g3, g4, g5, g6, rfl⟩ := h
      exact ⟨T, ad, _, rfl, hT.f (by decide), rfl, rfl, rfl, z0, z1, g1, g2, g3, g4, g5, g6, rfl⟩) (fun E h => h.elim (fun h => Or.inl h.1) (fun h => Or.inr h.1))) ml_RL_115 st_L_price ini_L cdW_L_price hd_RL_115 rfl rfl (Nat.le_of_ble_eq_true rfl) ⟨rfl, rfl⟩ (by decide) hc dL_law_464 ?_
  intro r S1 hpost
  rcases hpost with ⟨rfl, ov, _, _, σ2, ⟨rfl, rfl, hp⟩, rfl⟩ | ⟨rfl, he, rfl⟩ | ⟨rfl, he, rfl⟩
  · obtain ⟨hML3, hcd, hval, h60, h99, hI2⟩ := S_price ((xs (iL + 1))) ((xs (iL + 2))) ((xs (iL + 3))) hI hp
    refine r_istore5 (pc := 467) C dL_law_467 ?_
    refine r_aload2 (pc := 469) C dL_law_469 ?_
    refine r_aload0 (pc := 470) C dL_law_470 ?_
    refine r_iload4 (pc := 471) C dL_law_471 ?_
    refine r_iconst (pc := 473) C (v := nI 1) dL_law_473 (by decide) ?_
    refine r_iadd (pc := 474) C dL_law_474 ?_
    rw [show nI iL + nI 1 = nI (iL + 1) from nI_add iL 1]
    refine r_sld (pc := 475) C hX hbl hbA (k := iL + 1) rfl (by omega) hL dL_law_475 ?_
    refine r_aload0 (pc := 476) C dL_law_476 ?_
    refine r_iload4 (pc := 477) C dL_law_477 ?_
    refine r_iconst (pc := 479) C (v := nI 2) dL_law_479 (by decide) ?_
    refine r_iadd (pc := 480) C dL_law_480 ?_
    rw [show nI iL + nI 2 = nI (iL + 2) from nI_add iL 2]
    refine r_sld (pc := 481) C hX hbl hbA (k := iL + 2) rfl (by omega) hL dL_law_481 ?_
    refine r_aload0 (pc := 482) C dL_law_482 ?_
    refine r_iload4 (pc := 483) C dL_law_483 ?_
    refine r_iconst (pc := 485) C (v := nI 3) dL_law_485 (by decide) ?_
    refine r_iadd (pc := 486) C dL_law_486 ?_
    rw [show nI iL + nI 3 = nI (iL + 3) from nI_add iL 3]
    refine r_sld (pc := 487) C hX hbl hbA (k := iL + 3) rfl (by omega) hL dL_law_487 ?_
    refine kL_118 (pc := 488) C (c_X6_price l D _ _ _ hT hML3 ((xs (iL + 1))) ((xs (iL + 2))) ((xs (iL + 3)))) (hT.f (by decide)) rfl dL_law_488 (Nat.le_of_ble_eq_true rfl) ⟨⟨rfl, rfl⟩, by decide, hc.1, hc.2⟩ ?_
    rintro _ _ ⟨hy1, -⟩
    obtain ⟨rfl, rfl⟩ := hy1 hcd
    refine r_istore6 (pc := 491) C dL_law_491 ?_
    refine r_aload2 (pc := 493) C dL_law_493 ?_
    refine kL_101 (pc := 494) C (c_X6_thrown l D _ _ _ hT) (hT.f (by decide)) rfl dL_law_494 (Nat.le_of_ble_eq_true rfl) ⟨⟨rfl, rfl⟩, by decide, hc.1, hc.2⟩ ?_
    rintro _ _ ⟨rfl, rfl⟩
    rw [h60]
    refine r_iload5 (pc := 497) C dL_law_497 ?_
    refine r_icmp_eq (pc := 499) C (tgt := 504) dL_law_499 (by decide) (fun _ => ?_) (fun z => absurd rfl z)
    refine r_iload5 (pc := 504) C dL_law_504 ?_
    refine r_if_ne (pc := 506) C (tgt := 521) dL_law_506 (by decide) (fun z => absurd rfl z) (fun _ => ?_)
    refine r_aload3 (pc := 509) C dL_law_509 ?_
    refine r_iconst (pc := 510) C (v := nI 0) dL_law_510 (by decide) ?_
    refine r_lald (pc := 511) C (t := 399) (k := 0) (hT.f (by decide)) rfl rfl (by decide) (by decide) dL_law_511 ?_
    rw [h99.trans hval]
    refine r_iload6 (pc := 512) C dL_law_512 ?_
    refine r_i2l (pc := 514) C dL_law_514 ?_
    refine r_lcmp (pc := 515) C dL_law_515 ?_
    rw [lg_self]
    refine r_if_eq (pc := 516) C (tgt := 521) dL_law_516 (by decide) (fun _ => ?_) (fun z => absurd rfl z)
    refine r_goto (pc := 521) C (tgt := 1624) dL_law_521 (by decide) ?_
    exact next _ _ _ _ _ _ _ _ _ hT hI2
  · refine r_istore5 (pc := 467) C dL_law_467 ?_
    refine r_aload2 (pc := 469) C dL_law_469 ?_
    refine r_aload0 (pc := 470) C dL_law_470 ?_
    refine r_iload4 (pc := 471) C dL_law_471 ?_
    refine r_iconst (pc := 473) C (v := nI 1) dL_law_473 (by decide) ?_
    refine r_iadd (pc := 474) C dL_law_474 ?_
    rw [show nI iL + nI 1 = nI (iL + 1) from nI_add iL 1]
    refine r_sld (pc := 475) C hX hbl hbA (k := iL + 1) rfl (by omega) hL dL_law_475 ?_
    refine r_aload0 (pc := 476) C dL_law_476 ?_
    refine r_iload4 (pc := 477) C dL_law_477 ?_
    refine r_iconst (pc := 479) C (v := nI 2) dL_law_479 (by decide) ?_
    refine r_iadd (pc := 480) C dL_law_480 ?_
    rw [show nI iL + nI 2 = nI (iL + 2) from nI_add iL 2]
    refine r_sld (pc := 481) C hX hbl hbA (k := iL + 2) rfl (by omega) hL dL_law_481 ?_
    refine r_aload0 (pc := 482) C dL_law_482 ?_
    refine r_iload4 (pc := 483) C dL_law_483 ?_
    refine r_iconst (pc := 485) C (v := nI 3) dL_law_485 (by decide) ?_
    refine r_iadd (pc := 486) C dL_law_486 ?_
    rw [show nI iL + nI 3 = nI (iL + 3) from nI_add iL 3]
    refine r_sld (pc := 487) C hX hbl hbA (k := iL + 3) rfl (by omega) hL dL_law_487 ?_
    refine kL_118 (pc := 488) C (c_X6_price l D _ _ _ hT hI.2.2.1 ((xs (iL + 1))) ((xs (iL + 2))) ((xs (iL + 3)))) (hT.f (by decide)) rfl dL_law_488 (Nat.le_of_ble_eq_true rfl) ⟨⟨rfl, rfl⟩, by decide, hc.1, hc.2⟩ ?_
    have hcd := (E_price ((xs (iL + 1))) ((xs (iL + 2))) ((xs (iL + 3))) hI).1 he
    have hne : ¬ (cd2 ((0 ≤ (xs (iL + 1)) ∧ (xs (iL + 1)) ≤ 3) ∧ (0 ≤ (xs (iL + 2)) ∧ (xs (iL + 2)) ≤ 18)) (1 ≤ (xs (iL + 3)) ∧ (xs (iL + 3)) ≤ 99999)) = 0 := by rw [hcd]; decide
    rintro _ _ ⟨-, hy2⟩
    obtain ⟨rfl, rfl⟩ := hy2 hne
    rw [hcd]
    refine r_istore6 (pc := 491) C dL_law_491 ?_
    refine r_aload2 (pc := 493) C dL_law_493 ?_
    refine kL_101 (pc := 494) C (c_X6_thrown l D _ _ _ hT) (hT.f (by decide)) rfl dL_law_494 (Nat.le_of_ble_eq_true rfl) ⟨⟨rfl, rfl⟩, by decide, hc.1, hc.2⟩ ?_
    rintro _ _ ⟨rfl, rfl⟩
    rw [up_self]
    refine r_iload5 (pc := 497) C dL_law_497 ?_
    refine r_icmp_eq (pc := 499) C (tgt := 504) dL_law_499 (by decide) (fun _ => ?_) (fun z => absurd rfl z)
    refine r_iload5 (pc := 504) C dL_law_504 ?_
    refine r_if_ne (pc := 506) C (tgt := 521) dL_law_506 (by decide) (fun _ => ?_) (fun z => absurd z (by decide))
    refine r_goto (pc := 521) C (tgt := 1624) dL_law_521 (by decide) ?_
    exact next _ _ _ _ _ _ _ _ _ hT (INV_60 _ hI)
  · refine r_istore5 (pc := 467) C dL_law_467 ?_
    refine r_aload2 (pc := 469) C dL_law_469 ?_
    refine r_aload0 (pc := 470) C dL_law_470 ?_
    refine r_iload4 (pc := 471) C dL_law_471 ?_
    refine r_iconst (pc := 473) C (v := nI 1) dL_law_473 (by decide) ?_
    refine r_iadd (pc := 474) C dL_law_474 ?_
    rw [show nI iL + nI 1 = nI (iL + 1) from nI_add iL 1]
    refine r_sld (pc := 475) C hX hbl hbA (k := iL + 1) rfl (by omega) hL dL_law_475 ?_
    refine r_aload0 (pc := 476) C dL_law_476 ?_
    refine r_iload4 (pc := 477) C dL_law_477 ?_
    refine r_iconst (pc := 479) C (v := nI 2) dL_law_479 (by decide) ?_
    refine r_iadd (pc := 480) C dL_law_480 ?_
    rw [show nI iL + nI 2 = nI (iL + 2) from nI_add iL 2]
    refine r_sld (pc := 481) C hX hbl hbA (k := iL + 2) rfl (by omega) hL dL_law_481 ?_
    refine r_aload0 (pc := 482) C dL_law_482 ?_
    refine r_iload4 (pc := 483) C dL_law_483 ?_
    refine r_iconst (pc := 485) C (v := nI 3) dL_law_485 (by decide) ?_
    refine r_iadd (pc := 486) C dL_law_486 ?_
    rw [show nI iL + nI 3 = nI (iL + 3) from nI_add iL 3]
    refine r_sld (pc := 487) C hX hbl hbA (k := iL + 3) rfl (by omega) hL dL_law_487 ?_
    refine kL_118 (pc := 488) C (c_X6_price l D _ _ _ hT hI.2.2.1 ((xs (iL + 1))) ((xs (iL + 2))) ((xs (iL + 3)))) (hT.f (by decide)) rfl dL_law_488 (Nat.le_of_ble_eq_true rfl) ⟨⟨rfl, rfl⟩, by decide, hc.1, hc.2⟩ ?_
    have hcd := (E_price ((xs (iL + 1))) ((xs (iL + 2))) ((xs (iL + 3))) hI).2 he
    have hne : ¬ (cd2 ((0 ≤ (xs (iL + 1)) ∧ (xs (iL + 1)) ≤ 3) ∧ (0 ≤ (xs (iL + 2)) ∧ (xs (iL + 2)) ≤ 18)) (1 ≤ (xs (iL + 3)) ∧ (xs (iL + 3)) ≤ 99999)) = 0 := by rw [hcd]; decide
    rintro _ _ ⟨-, hy2⟩
    obtain ⟨rfl, rfl⟩ := hy2 hne
    rw [hcd]
    refine r_istore6 (pc := 491) C dL_law_491 ?_
    refine r_aload2 (pc := 493) C dL_law_493 ?_
    refine kL_101 (pc := 494) C (c_X6_thrown l D _ _ _ hT) (hT.f (by decide)) rfl dL_law_494 (Nat.le_of_ble_eq_true rfl) ⟨⟨rfl, rfl⟩, by decide, hc.1, hc.2⟩ ?_
    rintro _ _ ⟨rfl, rfl⟩
    rw [up_self]
    refine r_iload5 (pc := 497) C dL_law_497 ?_
    refine r_icmp_eq (pc := 499) C (tgt := 504) dL_law_499 (by decide) (fun _ => ?_) (fun z => absurd rfl z)
    refine r_iload5 (pc := 504) C dL_law_504 ?_
    refine r_if_ne (pc := 506) C (tgt := 521) dL_law_506 (by decide) (fun _ => ?_) (fun z => absurd z (by decide))
    refine r_goto (pc := 521) C (tgt := 1624) dL_law_521 (by decide) ?_
    exact next _ _ _ _ _ _ _ _ _ hT (INV_60 _ hI)
set_option maxRecDepth 100000 in
set_option maxHeartbeats 1000000 in
theorem lc_value (C : CX D A RL code 7 ret tb p s m args meth c) (hNC : NC s) (hX : va_X b Ls xs s s.heap) (hbl : b < s.heap.size) (hbA : ¬ A b) (hfl : l.stackTraces = false) (hT : TG nr ng T) (hI : INV nr ng np nb σ) (hi : iL + 6 ≤ Ls) (hL : Ls ≤ 3072) {x5 x6 : Option Value} (hc : cells + 40 ≤ room_1.cells ∧ slots + 400 ≤ room_1.slots) (next : ∀ (T2 : List Nat) (ad2 : Nat → Nat) (σ2 : Mm) (nr2 ng2 np2 nb2 : Nat) (x5 x6 : Option Value), TG nr2 ng2 T2 → INV nr2 ng2 np2 nb2 σ2 → V D A 7 (T2, ad2, cO D ad2 σ2) p l e room_1 s m args below meth c (cells + 40) (slots + 400) Q 1624 [some (.ref b), some (.ref (ad2 0)), some (.ref (ad2 400)), some (.ref (ad2 399)), some (.int (nI iL)), x5, x6] []) : V D A 7 (T, ad, cO D ad σ) p l e room_1 s m args below meth c cells slots Q 524 [some (.ref b), some (.ref (ad 0)), some (.ref (ad 400)), some (.ref (ad 399)), some (.int (nI iL)), x5, x6] [] := by
  have hT0 := hT
  refine r_aload1 (pc := 524) C dL_law_524 ?_
  refine r_aload0 (pc := 525) C dL_law_525 ?_
  refine r_iload4 (pc := 526) C dL_law_526 ?_
  refine r_iconst (pc := 528) C (v := nI 1) dL_law_528 (by decide) ?_
  refine r_iadd (pc := 529) C dL_law_529 ?_
  rw [show nI iL + nI 1 = nI (iL + 1) from nI_add iL 1]
  refine r_sld (pc := 530) C hX hbl hbA (k := iL + 1) rfl (by omega) hL dL_law_530 ?_
  refine r_aload3 (pc := 531) C dL_law_531 ?_
  refine r_callW (pc := 532) C hNC (c_L_value l D T ad σ hT ((xs (iL + 1))) (PP := (fun ov T2 ad2 σ2 => T2 = T ∧ ad2 = ad ∧ ∃ i, i < nr ∧ (xs (iL + 1)) = nI i ∧ ov = valC σ i ∧ σ2 = σ)) (c_X5_value l D hfl T ad σ hT hI.1 ((xs (iL + 1)))) (fun ov S0 h => by
      obtain ⟨z0, g1, g2, g3, rfl⟩ := h
      exact ⟨T, ad, _, rfl, hT.f (by decide), rfl, rfl, rfl, z0, g1, g2, g3, rfl⟩) (fun E h => h.1)) ml_RL_119 st_L_value ini_L cdW_L_value hd_RL_119 rfl rfl (Nat.le_of_ble_eq_true rfl) ⟨rfl, rfl⟩ (by decide) hc dL_law_532 ?_
  intro r S1 hpost
  rcases hpost with ⟨rfl, ov, _, _, σ2, ⟨rfl, rfl, hp⟩, rfl⟩ | ⟨rfl, he, rfl⟩
  · obtain ⟨hML3, hcd, hval, h60, h99, hI2⟩ := S_value ((xs (iL + 1))) hI hp
    refine r_istore5 (pc := 535) C dL_law_535 ?_
    refine r_aload2 (pc := 537) C dL_law_537 ?_
    refine r_aload0 (pc := 538) C dL_law_538 ?_
    refine r_iload4 (pc := 539) C dL_law_539 ?_
    refine r_iconst (pc := 541) C (v := nI 1) dL_law_541 (by decide) ?_
    refine r_iadd (pc := 542) C dL_law_542 ?_
    rw [show nI iL + nI 1 = nI (iL + 1) from nI_add iL 1]
    refine r_sld (pc := 543) C hX hbl hbA (k := iL + 1) rfl (by omega) hL dL_law_543 ?_
    refine kL_121 (pc := 544) C (c_X6_value l D _ _ _ hT hML3 ((xs (iL + 1)))) (hT.f (by decide)) rfl dL_law_544 (Nat.le_of_ble_eq_true rfl) ⟨⟨rfl, rfl⟩, by decide, hc.1, hc.2⟩ ?_
    rintro _ _ ⟨hy1, -⟩
    obtain ⟨rfl, rfl⟩ := hy1 hcd
    refine r_istore6 (pc := 547) C dL_law_547 ?_
    refine r_aload2 (pc := 549) C dL_law_549 ?_
    refine kL_101 (pc := 550) C (c_X6_thrown l D _ _ _ hT) (hT.f (by decide)) rfl dL_law_550 (Nat.le_of_ble_eq_true rfl) ⟨⟨rfl, rfl⟩, by decide, hc.1, hc.2⟩ ?_
    rintro _ _ ⟨rfl, rfl⟩
    rw [h60]
    refine r_iload5 (pc := 553) C dL_law_553 ?_
    refine r_icmp_eq (pc := 555) C (tgt := 560) dL_law_555 (by decide) (fun _ => ?_) (fun z => absurd rfl z)
    refine r_iload5 (pc := 560) C dL_law_560 ?_
    refine r_if_ne (pc := 562) C (tgt := 577) dL_law_562 (by decide) (fun z => absurd rfl z) (fun _ => ?_)
    refine r_aload3 (pc := 565) C dL_law_565 ?_
    refine r_iconst (pc := 566) C (v := nI 0) dL_law_566 (by decide) ?_
    refine r_lald (pc := 567) C (t := 399) (k := 0) (hT.f (by decide)) rfl rfl (by decide) (by decide) dL_law_567 ?_
    rw [h99.trans hval]
    refine r_iload6 (pc := 568) C dL_law_568 ?_
    refine r_i2l (pc := 570) C dL_law_570 ?_
    refine r_lcmp (pc := 571) C dL_law_571 ?_
    rw [lg_self]
    refine r_if_eq (pc := 572) C (tgt := 577) dL_law_572 (by decide) (fun _ => ?_) (fun z => absurd rfl z)
    refine r_goto (pc := 577) C (tgt := 1624) dL_law_577 (by decide) ?_
    exact next _ _ _ _ _ _ _ _ _ hT hI2
  · refine r_istore5 (pc := 535) C dL_law_535 ?_
    refine r_aload2 (pc := 537) C dL_law_537 ?_
    refine r_aload0 (pc := 538) C dL_law_538 ?_
    refine r_iload4 (pc := 539) C dL_law_539 ?_
    refine r_iconst (pc := 541) C (v := nI 1) dL_law_541 (by decide) ?_
    refine r_iadd (pc := 542) C dL_law_542 ?_
    rw [show nI iL + nI 1 = nI (iL + 1) from nI_add iL 1]
    refine r_sld (pc := 543) C hX hbl hbA (k := iL + 1) rfl (by omega) hL dL_law_543 ?_
    refine kL_121 (pc := 544) C (c_X6_value l D _ _ _ hT hI.2.2.1 ((xs (iL + 1)))) (hT.f (by decide)) rfl dL_law_544 (Nat.le_of_ble_eq_true rfl) ⟨⟨rfl, rfl⟩, by decide, hc.1, hc.2⟩ ?_
    have hcd := (E_value ((xs (iL + 1))) hI) he
    have hne : ¬ (cd1 (0 ≤ (xs (iL + 1)) ∧ (xs (iL + 1)) < nI nr)) = 0 := by rw [hcd]; decide
    rintro _ _ ⟨-, hy2⟩
    obtain ⟨rfl, rfl⟩ := hy2 hne
    rw [hcd]
    refine r_istore6 (pc := 547) C dL_law_547 ?_
    refine r_aload2 (pc := 549) C dL_law_549 ?_
    refine kL_101 (pc := 550) C (c_X6_thrown l D _ _ _ hT) (hT.f (by decide)) rfl dL_law_550 (Nat.le_of_ble_eq_true rfl) ⟨⟨rfl, rfl⟩, by decide, hc.1, hc.2⟩ ?_
    rintro _ _ ⟨rfl, rfl⟩
    rw [up_self]
    refine r_iload5 (pc := 553) C dL_law_553 ?_
    refine r_icmp_eq (pc := 555) C (tgt := 560) dL_law_555 (by decide) (fun _ => ?_) (fun z => absurd rfl z)
    refine r_iload5 (pc := 560) C dL_law_560 ?_
    refine r_if_ne (pc := 562) C (tgt := 577) dL_law_562 (by decide) (fun _ => ?_) (fun z => absurd z (by decide))
    refine r_goto (pc := 577) C (tgt := 1624) dL_law_577 (by decide) ?_
    exact next _ _ _ _ _ _ _ _ _ hT (INV_60 _ hI)
set_option maxRecDepth 100000 in
set_option maxHeartbeats 1000000 in
theorem lc_stoneIs (C : CX D A RL code 7 ret tb p s m args meth c) (hNC : NC s) (hX : va_X b Ls xs s s.heap) (hbl : b < s.heap.size) (hbA : ¬ A b) (hfl : l.stackTraces = false) (hT : TG nr ng T) (hI : INV nr ng np nb σ) (hi : iL + 6 ≤ Ls) (hL : Ls ≤ 3072) {x5 x6 : Option Value} (hc : cells + 40 ≤ room_1.cells ∧ slots + 400 ≤ room_1.slots) (next : ∀ (T2 : List Nat) (ad2 : Nat → Nat) (σ2 : Mm) (nr2 ng2 np2 nb2 : Nat) (x5 x6 : Option Value), TG nr2 ng2 T2 → INV nr2 ng2 np2 nb2 σ2 → V D A 7 (T2, ad2, cO D ad2 σ2) p l e room_1 s m args below meth c (cells + 40) (slots + 400) Q 1624 [some (.ref b), some (.ref (ad2 0)), some (.ref (ad2 400)), some (.ref (ad2 399)), some (.int (nI iL)), x5, x6] []) : V D A 7 (T, ad, cO D ad σ) p l e room_1 s m args below meth c cells slots Q 580 [some (.ref b), some (.ref (ad 0)), some (.ref (ad 400)), some (.ref (ad 399)), some (.int (nI iL)), x5, x6] [] := by
  have hT0 := hT
  refine r_aload1 (pc := 580) C dL_law_580 ?_
  refine r_aload0 (pc := 581) C dL_law_581 ?_
  refine r_iload4 (pc := 582) C dL_law_582 ?_
  refine r_iconst (pc := 584) C (v := nI 1) dL_law_584 (by decide) ?_
  refine r_iadd (pc := 585) C dL_law_585 ?_
  rw [show nI iL + nI 1 = nI (iL + 1) from nI_add iL 1]
  refine r_sld (pc := 586) C hX hbl hbA (k := iL + 1) rfl (by omega) hL dL_law_586 ?_
  refine r_aload0 (pc := 587) C dL_law_587 ?_
  refine r_iload4 (pc := 588) C dL_law_588 ?_
  refine r_iconst (pc := 590) C (v := nI 2) dL_law_590 (by decide) ?_
  refine r_iadd (pc := 591) C dL_law_591 ?_
  rw [show nI iL + nI 2 = nI (iL + 2) from nI_add iL 2]
  refine r_sld (pc := 592) C hX hbl hbA (k := iL + 2) rfl (by omega) hL dL_law_592 ?_
  refine r_aload3 (pc := 593) C dL_law_593 ?_
  refine r_callW (pc := 594) C hNC (c_L_stoneIs l D T ad σ hT ((xs (iL + 1))) ((xs (iL + 2))) (PP := (fun ov T2 ad2 σ2 => T2 = T ∧ ad2 = ad ∧ ∃ i, i < nr ∧ (xs (iL + 1)) = nI i ∧ (0 ≤ (xs (iL + 2)) ∧ (xs (iL + 2)) ≤ 6) ∧ ov = siC σ i (xs (iL + 2)) ∧ σ2 = σ)) (c_X5_stoneIs l D hfl T ad σ hT hI.1 ((xs (iL + 1))) ((xs (iL + 2)))) (fun ov S0 h => by
      obtain ⟨z0, g1, g2, g3, g4, rfl⟩ := h
      exact ⟨T, ad, _, rfl, hT.f (by decide), rfl, rfl, rfl, z0, g1, g2, g3, g4, rfl⟩) (fun E h => h.elim (fun h => Or.inl h.1) (fun h => Or.inr h.1))) ml_RL_122 st_L_stoneIs ini_L cdW_L_stoneIs hd_RL_122 rfl rfl (Nat.le_of_ble_eq_true rfl) ⟨rfl, rfl⟩ (by decide) hc dL_law_594 ?_
  intro r S1 hpost
  rcases hpost with ⟨rfl, ov, _, _, σ2, ⟨rfl, rfl, hp⟩, rfl⟩ | ⟨rfl, he, rfl⟩ | ⟨rfl, he, rfl⟩
  · obtain ⟨hML3, hcd, hval, h60, h99, hI2⟩ := S_stoneIs ((xs (iL + 1))) ((xs (iL + 2))) hI hp
    refine r_istore5 (pc := 597) C dL_law_597 ?_
    refine r_aload2 (pc := 599) C dL_law_599 ?_
    refine r_aload0 (pc := 600) C dL_law_600 ?_
    refine r_iload4 (pc := 601) C dL_law_601 ?_
    refine r_iconst (pc := 603) C (v := nI 1) dL_law_603 (by decide) ?_
    refine r_iadd (pc := 604) C dL_law_604 ?_
    rw [show nI iL + nI 1 = nI (iL + 1) from nI_add iL 1]
    refine r_sld (pc := 605) C hX hbl hbA (k := iL + 1) rfl (by omega) hL dL_law_605 ?_
    refine r_aload0 (pc := 606) C dL_law_606 ?_
    refine r_iload4 (pc := 607) C dL_law_607 ?_
    refine r_iconst (pc := 609) C (v := nI 2) dL_law_609 (by decide) ?_
    refine r_iadd (pc := 610) C dL_law_610 ?_
    rw [show nI iL + nI 2 = nI (iL + 2) from nI_add iL 2]
    refine r_sld (pc := 611) C hX hbl hbA (k := iL + 2) rfl (by omega) hL dL_law_611 ?_
    refine kL_124 (pc := 612) C (c_X6_stoneIs l D _ _ _ hT hML3 ((xs (iL + 1))) ((xs (iL + 2)))) (hT.f (by decide)) rfl dL_law_612 (Nat.le_of_ble_eq_true rfl) ⟨⟨rfl, rfl⟩, by decide, hc.1, hc.2⟩ ?_
    rintro _ _ ⟨hy1, -⟩
    obtain ⟨rfl, rfl⟩ := hy1 hcd
    refine r_istore6 (pc := 615) C dL_law_615 ?_
    refine r_aload2 (pc := 617) C dL_law_617 ?_
    refine kL_101 (pc := 618) C (c_X6_thrown l D _ _ _ hT) (hT.f (by decide)) rfl dL_law_618 (Nat.le_of_ble_eq_true rfl) ⟨⟨rfl, rfl⟩, by decide, hc.1, hc.2⟩ ?_
    rintro _ _ ⟨rfl, rfl⟩
    rw [h60]
    refine r_iload5 (pc := 621) C dL_law_621 ?_
    refine r_icmp_eq (pc := 623) C (tgt := 628) dL_law_623 (by decide) (fun _ => ?_) (fun z => absurd rfl z)
    refine r_iload5 (pc := 628) C dL_law_628 ?_
    refine r_if_ne (pc := 630) C (tgt := 645) dL_law_630 (by decide) (fun z => absurd rfl z) (fun _ => ?_)
    refine r_aload3 (pc := 633) C dL_law_633 ?_
    refine r_iconst (pc := 634) C (v := nI 0) dL_law_634 (by decide) ?_
    refine r_lald (pc := 635) C (t := 399) (k := 0) (hT.f (by decide)) rfl rfl (by decide) (by decide) dL_law_635 ?_
    rw [h99.trans hval]
    refine r_iload6 (pc := 636) C dL_law_636 ?_
    refine r_i2l (pc := 638) C dL_law_638 ?_
    refine r_lcmp (pc := 639) C dL_law_639 ?_
    rw [lg_self]
    refine r_if_eq (pc := 640) C (tgt := 645) dL_law_640 (by decide) (fun _ => ?_) (fun z => absurd rfl z)
    refine r_goto (pc := 645) C (tgt := 1624) dL_law_645 (by decide) ?_
    exact next _ _ _ _ _ _ _ _ _ hT hI2
  · refine r_istore5 (pc := 597) C dL_law_597 ?_
    refine r_aload2 (pc := 599) C dL_law_599 ?_
    refine r_aload0 (pc := 600) C dL_law_600 ?_
    refine r_iload4 (pc := 601) C dL_law_601 ?_
    refine r_iconst (pc := 603) C (v := nI 1) dL_law_603 (by decide) ?_
    refine r_iadd (pc := 604) C dL_law_604 ?_
    rw [show nI iL + nI 1 = nI (iL + 1) from nI_add iL 1]
    refine r_sld (pc := 605) C hX hbl hbA (k := iL + 1) rfl (by omega) hL dL_law_605 ?_
    refine r_aload0 (pc := 606) C dL_law_606 ?_
    refine r_iload4 (pc := 607) C dL_law_607 ?_
    refine r_iconst (pc := 609) C (v := nI 2) dL_law_609 (by decide) ?_
    refine r_iadd (pc := 610) C dL_law_610 ?_
    rw [show nI iL + nI 2 = nI (iL + 2) from nI_add iL 2]
    refine r_sld (pc := 611) C hX hbl hbA (k := iL + 2) rfl (by omega) hL dL_law_611 ?_
    refine kL_124 (pc := 612) C (c_X6_stoneIs l D _ _ _ hT hI.2.2.1 ((xs (iL + 1))) ((xs (iL + 2)))) (hT.f (by decide)) rfl dL_law_612 (Nat.le_of_ble_eq_true rfl) ⟨⟨rfl, rfl⟩, by decide, hc.1, hc.2⟩ ?_
    have hcd := (E_stoneIs ((xs (iL + 1))) ((xs (iL + 2))) hI).1 he
    have hne : ¬ (cd2 (0 ≤ (xs (iL + 1)) ∧ (xs (iL + 1)) < nI nr) (0 ≤ (xs (iL + 2)) ∧ (xs (iL + 2)) ≤ 6)) = 0 := by rw [hcd]; decide
    rintro _ _ ⟨-, hy2⟩
    obtain ⟨rfl, rfl⟩ := hy2 hne
    rw [hcd]
    refine r_istore6 (pc := 615) C dL_law_615 ?_
    refine r_aload2 (pc := 617) C dL_law_617 ?_
    refine kL_101 (pc := 618) C (c_X6_thrown l D _ _ _ hT) (hT.f (by decide)) rfl dL_law_618 (Nat.le_of_ble_eq_true rfl) ⟨⟨rfl, rfl⟩, by decide, hc.1, hc.2⟩ ?_
    rintro _ _ ⟨rfl, rfl⟩
    rw [up_self]
    refine r_iload5 (pc := 621) C dL_law_621 ?_
    refine r_icmp_eq (pc := 623) C (tgt := 628) dL_law_623 (by decide) (fun _ => ?_) (fun z => absurd rfl z)
    refine r_iload5 (pc := 628) C dL_law_628 ?_
    refine r_if_ne (pc := 630) C (tgt := 645) dL_law_630 (by decide) (fun _ => ?_) (fun z => absurd z (by decide))
    refine r_goto (pc := 645) C (tgt := 1624) dL_law_645 (by decide) ?_
    exact next _ _ _ _ _ _ _ _ _ hT (INV_60 _ hI)
  · refine r_istore5 (pc := 597) C dL_law_597 ?_
    refine r_aload2 (pc := 599) C dL_law_599 ?_
    refine r_aload0 (pc := 600) C dL_law_600 ?_
    refine r_iload4 (pc := 601) C dL_law_601 ?_
    refine r_iconst (pc := 603) C (v := nI 1) dL_law_603 (by decide) ?_
    refine r_iadd (pc := 604) C dL_law_604 ?_
    rw [show nI iL + nI 1 = nI (iL + 1) from nI_add iL 1]
    refine r_sld (pc := 605) C hX hbl hbA (k := iL + 1) rfl (by omega) hL dL_law_605 ?_
    refine r_aload0 (pc := 606) C dL_law_606 ?_
    refine r_iload4 (pc := 607) C dL_law_607 ?_
    refine r_iconst (pc := 609) C (v := nI 2) dL_law_609 (by decide) ?_
    refine r_iadd (pc := 610) C dL_law_610 ?_
    rw [show nI iL + nI 2 = nI (iL + 2) from nI_add iL 2]
    refine r_sld (pc := 611) C hX hbl hbA (k := iL + 2) rfl (by omega) hL dL_law_611 ?_
    refine kL_124 (pc := 612) C (c_X6_stoneIs l D _ _ _ hT hI.2.2.1 ((xs (iL + 1))) ((xs (iL + 2)))) (hT.f (by decide)) rfl dL_law_612 (Nat.le_of_ble_eq_true rfl) ⟨⟨rfl, rfl⟩, by decide, hc.1, hc.2⟩ ?_
    have hcd := (E_stoneIs ((xs (iL + 1))) ((xs (iL + 2))) hI).2 he
    have hne : ¬ (cd2 (0 ≤ (xs (iL + 1)) ∧ (xs (iL + 1)) < nI nr) (0 ≤ (xs (iL + 2)) ∧ (xs (iL + 2)) ≤ 6)) = 0 := by rw [hcd]; decide
    rintro _ _ ⟨-, hy2⟩
    obtain ⟨rfl, rfl⟩ := hy2 hne
    rw [hcd]
    refine r_istore6 (pc := 615) C dL_law_615 ?_
    refine r_aload2 (pc := 617) C dL_law_617 ?_
    refine kL_101 (pc := 618) C (c_X6_thrown l D _ _ _ hT) (hT.f (by decide)) rfl dL_law_618 (Nat.le_of_ble_eq_true rfl) ⟨⟨rfl, rfl⟩, by decide, hc.1, hc.2⟩ ?_
    rintro _ _ ⟨rfl, rfl⟩
    rw [up_self]
    refine r_iload5 (pc := 621) C dL_law_621 ?_
    refine r_icmp_eq (pc := 623) C (tgt := 628) dL_law_623 (by decide) (fun _ => ?_) (fun z => absurd rfl z)
    refine r_iload5 (pc := 628) C dL_law_628 ?_
    refine r_if_ne (pc := 630) C (tgt := 645) dL_law_630 (by decide) (fun _ => ?_) (fun z => absurd z (by decide))
    refine r_goto (pc := 645) C (tgt := 1624) dL_law_645 (by decide) ?_
    exact next _ _ _ _ _ _ _ _ _ hT (INV_60 _ hI)
set_option maxRecDepth 100000 in
set_option maxHeartbeats 1000000 in
theorem lc_boxes (C : CX D A RL code 7 ret tb p s m args meth c) (hNC : NC s) (hX : va_X b Ls xs s s.heap) (hbl : b < s.heap.size) (hbA : ¬ A b) (hfl : l.stackTraces = false) (hT : TG nr ng T) (hI : INV nr ng np nb σ) (hi : iL + 6 ≤ Ls) (hL : Ls ≤ 3072) {x5 x6 : Option Value} (hc : cells + 40 ≤ room_1.cells ∧ slots + 400 ≤ room_1.slots) (next : ∀ (T2 : List Nat) (ad2 : Nat → Nat) (σ2 : Mm) (nr2 ng2 np2 nb2 : Nat) (x5 x6 : Option Value), TG nr2 ng2 T2 → INV nr2 ng2 np2 nb2 σ2 → V D A 7 (T2, ad2, cO D ad2 σ2) p l e room_1 s m args below meth c (cells + 40) (slots + 400) Q 1624 [some (.ref b), some (.ref (ad2 0)), some (.ref (ad2 400)), some (.ref (ad2 399)), some (.int (nI iL)), x5, x6] []) : V D A 7 (T, ad, cO D ad σ) p l e room_1 s m args below meth c cells slots Q 648 [some (.ref b), some (.ref (ad 0)), some (.ref (ad 400)), some (.ref (ad 399)), some (.int (nI iL)), x5, x6] [] := by
  have hT0 := hT
  refine r_aload1 (pc := 648) C dL_law_648 ?_
  refine r_aload0 (pc := 649) C dL_law_649 ?_
  refine r_iload4 (pc := 650) C dL_law_650 ?_
  refine r_iconst (pc := 652) C (v := nI 1) dL_law_652 (by decide) ?_
  refine r_iadd (pc := 653) C dL_law_653 ?_
  rw [show nI iL + nI 1 = nI (iL + 1) from nI_add iL 1]
  refine r_sld (pc := 654) C hX hbl hbA (k := iL + 1) rfl (by omega) hL dL_law_654 ?_
  refine r_aload3 (pc := 655) C dL_law_655 ?_
  refine r_callW (pc := 656) C hNC (c_L_boxes l D T ad σ hT ((xs (iL + 1))) (PP := (fun ov T2 ad2 σ2 => T2 = T ∧ ad2 = ad ∧ ∃ m, 1 ≤ m ∧ m ≤ 5 ∧ (xs (iL + 1)) = nI m ∧ ov = nI (fillN 40 (opB σ (nI m))) ∧ σ2 = (offG (fillG 40 (opB σ (nI m))) m))) (c_X5_boxes l D hfl T ad σ hT hI.1 ((xs (iL + 1)))) (fun ov S0 h => by
      obtain ⟨z0, g1, g2, g3, g4, rfl⟩ := h
      exact ⟨T, ad, _, rfl, hT.f (by decide), rfl, rfl, rfl, z0, g1, g2, g3, g4, rfl⟩) (fun E h => h.1)) ml_RL_125 st_L_boxes ini_L cdW_L_boxes hd_RL_125 rfl rfl (Nat.le_of_ble_eq_true rfl) ⟨rfl, rfl⟩ (by decide) hc dL_law_656 ?_
  intro r S1 hpost
  rcases hpost with ⟨rfl, ov, _, _, σ2, ⟨rfl, rfl, hp⟩, rfl⟩ | ⟨rfl, he, rfl⟩
  · obtain ⟨hML3, hcd, hval, h60, h99, hI2⟩ := S_boxes ((xs (iL + 1))) hI hp
    obtain ⟨m8, hm8, hI2⟩ := hI2
    refine r_istore5 (pc := 659) C dL_law_659 ?_
    refine r_aload2 (pc := 661) C dL_law_661 ?_
    refine r_aload0 (pc := 662) C dL_law_662 ?_
    refine r_iload4 (pc := 663) C dL_law_663 ?_
    refine r_iconst (pc := 665) C (v := nI 1) dL_law_665 (by decide) ?_
    refine r_iadd (pc := 666) C dL_law_666 ?_
    rw [show nI iL + nI 1 = nI (iL + 1) from nI_add iL 1]
    refine r_sld (pc := 667) C hX hbl hbA (k := iL + 1) rfl (by omega) hL dL_law_667 ?_
    refine kL_127 (pc := 668) C (c_X6_boxes l D _ _ _ hT hML3 ((xs (iL + 1)))) (hT.f (by decide)) rfl dL_law_668 (Nat.le_of_ble_eq_true rfl) ⟨⟨rfl, rfl⟩, by decide, hc.1, hc.2⟩ ?_
    rintro _ _ ⟨hy1, -⟩
    obtain ⟨rfl, rfl⟩ := hy1 hcd
    refine r_istore6 (pc := 671) C dL_law_671 ?_
    refine r_aload2 (pc := 673) C dL_law_673 ?_
    refine kL_101 (pc := 674) C (c_X6_thrown l D _ _ _ hT) (hT.f (by decide)) rfl dL_law_674 (Nat.le_of_ble_eq_true rfl) ⟨⟨rfl, rfl⟩, by decide, hc.1, hc.2⟩ ?_
    rintro _ _ ⟨rfl, rfl⟩
    rw [h60]
    refine r_iload5 (pc := 677) C dL_law_677 ?_
    refine r_icmp_eq (pc := 679) C (tgt := 684) dL_law_679 (by decide) (fun _ => ?_) (fun z => absurd rfl z)
    refine r_iload5 (pc := 684) C dL_law_684 ?_
    refine r_if_ne (pc := 686) C (tgt := 701) dL_law_686 (by decide) (fun z => absurd rfl z) (fun _ => ?_)
    refine r_aload3 (pc := 689) C dL_law_689 ?_
    refine r_iconst (pc := 690) C (v := nI 0) dL_law_690 (by decide) ?_
    refine r_lald (pc := 691) C (t := 399) (k := 0) (hT.f (by decide)) rfl rfl (by decide) (by decide) dL_law_691 ?_
    rw [h99.trans hval]
    refine r_iload6 (pc := 692) C dL_law_692 ?_
    refine r_i2l (pc := 694) C dL_law_694 ?_
    refine r_lcmp (pc := 695) C dL_law_695 ?_
    rw [lg_self]
    refine r_if_eq (pc := 696) C (tgt := 701) dL_law_696 (by decide) (fun _ => ?_) (fun z => absurd rfl z)
    refine r_goto (pc := 701) C (tgt := 1624) dL_law_701 (by decide) ?_
    exact next _ _ _ _ _ _ _ _ _ hT hI2
  · refine r_istore5 (pc := 659) C dL_law_659 ?_
    refine r_aload2 (pc := 661) C dL_law_661 ?_
    refine r_aload0 (pc := 662) C dL_law_662 ?_
    refine r_iload4 (pc := 663) C dL_law_663 ?_
    refine r_iconst (pc := 665) C (v := nI 1) dL_law_665 (by decide) ?_
    refine r_iadd (pc := 666) C dL_law_666 ?_
    rw [show nI iL + nI 1 = nI (iL + 1) from nI_add iL 1]
    refine r_sld (pc := 667) C hX hbl hbA (k := iL + 1) rfl (by omega) hL dL_law_667 ?_
    refine kL_127 (pc := 668) C (c_X6_boxes l D _ _ _ hT hI.2.2.1 ((xs (iL + 1)))) (hT.f (by decide)) rfl dL_law_668 (Nat.le_of_ble_eq_true rfl) ⟨⟨rfl, rfl⟩, by decide, hc.1, hc.2⟩ ?_
    have hcd := (E_boxes ((xs (iL + 1))) hI) he
    have hne : ¬ (cd1 (1 ≤ (xs (iL + 1)) ∧ (xs (iL + 1)) ≤ 5)) = 0 := by rw [hcd]; decide
    rintro _ _ ⟨-, hy2⟩
    obtain ⟨rfl, rfl⟩ := hy2 hne
    rw [hcd]
    refine r_istore6 (pc := 671) C dL_law_671 ?_
    refine r_aload2 (pc := 673) C dL_law_673 ?_
    refine kL_101 (pc := 674) C (c_X6_thrown l D _ _ _ hT) (hT.f (by decide)) rfl dL_law_674 (Nat.le_of_ble_eq_true rfl) ⟨⟨rfl, rfl⟩, by decide, hc.1, hc.2⟩ ?_
    rintro _ _ ⟨rfl, rfl⟩
    rw [up_self]
    refine r_iload5 (pc := 677) C dL_law_677 ?_
    refine r_icmp_eq (pc := 679) C (tgt := 684) dL_law_679 (by decide) (fun _ => ?_) (fun z => absurd rfl z)
    refine r_iload5 (pc := 684) C dL_law_684 ?_
    refine r_if_ne (pc := 686) C (tgt := 701) dL_law_686 (by decide) (fun _ => ?_) (fun z => absurd z (by decide))
    refine r_goto (pc := 701) C (tgt := 1624) dL_law_701 (by decide) ?_
    exact next _ _ _ _ _ _ _ _ _ hT (INV_60 _ hI)
set_option maxRecDepth 100000 in
set_option maxHeartbeats 1000000 in
theorem lc_boxValue (C : CX D A RL code 7 ret tb p s m args meth c) (hNC : NC s) (hX : va_X b Ls xs s s.heap) (hbl : b < s.heap.size) (hbA : ¬ A b) (hfl : l.stackTraces = false) (hT : TG nr ng T) (hI : INV nr ng np nb σ) (hi : iL + 6 ≤ Ls) (hL : Ls ≤ 3072) {x5 x6 : Option Value} (hc : cells + 40 ≤ room_1.cells ∧ slots + 400 ≤ room_1.slots) (next : ∀ (T2 : List Nat) (ad2 : Nat → Nat) (σ2 : Mm) (nr2 ng2 np2 nb2 : Nat) (x5 x6 : Option Value), TG nr2 ng2 T2 → INV nr2 ng2 np2 nb2 σ2 → V D A 7 (T2, ad2, cO D ad2 σ2) p l e room_1 s m args below meth c (cells + 40) (slots + 400) Q 1624 [some (.ref b), some (.ref (ad2 0)), some (.ref (ad2 400)), some (.ref (ad2 399)), some (.int (nI iL)), x5, x6] []) : V D A 7 (T, ad, cO D ad σ) p l e room_1 s m args below meth c cells slots Q 704 [some (.ref b), some (.ref (ad 0)), some (.ref (ad 400)), some (.ref (ad 399)), some (.int (nI iL)), x5, x6] [] := by
  have hT0 := hT
  refine r_aload1 (pc := 704) C dL_law_704 ?_
  refine r_aload0 (pc := 705) C dL_law_705 ?_
  refine r_iload4 (pc := 706) C dL_law_706 ?_
  refine r_iconst (pc := 708) C (v := nI 1) dL_law_708 (by decide) ?_
  refine r_iadd (pc := 709) C dL_law_709 ?_
  rw [show nI iL + nI 1 = nI (iL + 1) from nI_add iL 1]
  refine r_sld (pc := 710) C hX hbl hbA (k := iL + 1) rfl (by omega) hL dL_law_710 ?_
  refine r_aload3 (pc := 711) C dL_law_711 ?_
  refine r_callW (pc := 712) C hNC (c_L_boxValue l D T ad σ hT ((xs (iL + 1))) (PP := (fun ov T2 ad2 σ2 => T2 = T ∧ ad2 = ad ∧ ∃ j, j < nb ∧ (xs (iL + 1)) = nI j ∧ ov = iF (offd σ (nI j)) (bvC σ (nI j) 40) (-1) ∧ σ2 = σ)) (c_X5_boxValue l D hfl T ad σ hT hI.1 ((xs (iL + 1)))) (fun ov S0 h => by
      obtain ⟨z0, g1, g2, g3, rfl⟩ := h
      exact ⟨T, ad, _, rfl, hT.f (by decide), rfl, rfl, rfl, z0, g1, g2, g3, rfl⟩) (fun E h => h.1)) ml_RL_128 st_L_boxValue ini_L cdW_L_boxValue hd_RL_128 rfl rfl (Nat.le_of_ble_eq_true rfl) ⟨rfl, rfl⟩ (by decide) hc dL_law_712 ?_
  intro r S1 hpost
  rcases hpost with ⟨rfl, ov, _, _, σ2, ⟨rfl, rfl, hp⟩, rfl⟩ | ⟨rfl, he, rfl⟩
  · obtain ⟨hML3, hcd, hval, h60, h99, hI2⟩ := S_boxValue ((xs (iL + 1))) hI hp
    refine r_istore5 (pc := 715) C dL_law_715 ?_
    refine r_aload2 (pc := 717) C dL_law_717 ?_
    refine r_aload0 (pc := 718) C dL_law_718 ?_
    refine r_iload4 (pc := 719) C dL_law_719 ?_
    refine r_iconst (pc := 721) C (v := nI 1) dL_law_721 (by decide) ?_
    refine r_iadd (pc := 722) C dL_law_722 ?_
    rw [show nI iL + nI 1 = nI (iL + 1) from nI_add iL 1]
    refine r_sld (pc := 723) C hX hbl hbA (k := iL + 1) rfl (by omega) hL dL_law_723 ?_
    refine kL_130 (pc := 724) C (c_X6_boxValue l D _ _ _ hT hML3 ((xs (iL + 1)))) (hT.f (by decide)) rfl dL_law_724 (Nat.le_of_ble_eq_true rfl) ⟨⟨rfl, rfl⟩, by decide, hc.1, hc.2⟩ ?_
    rintro _ _ ⟨hy1, -⟩
    obtain ⟨rfl, rfl⟩ := hy1 hcd
    refine r_istore6 (pc := 727) C dL_law_727 ?_
    refine r_aload2 (pc := 729) C dL_law_729 ?_
    refine kL_101 (pc := 730) C (c_X6_thrown l D _ _ _ hT) (hT.f (by decide)) rfl dL_law_730 (Nat.le_of_ble_eq_true rfl) ⟨⟨rfl, rfl⟩, by decide, hc.1, hc.2⟩ ?_
    rintro _ _ ⟨rfl, rfl⟩
    rw [h60]
    refine r_iload5 (pc := 733) C dL_law_733 ?_
    refine r_icmp_eq (pc := 735) C (tgt := 740) dL_law_735 (by decide) (fun _ => ?_) (fun z => absurd rfl z)
    refine r_iload5 (pc := 740) C dL_law_740 ?_
    refine r_if_ne (pc := 742) C (tgt := 757) dL_law_742 (by decide) (fun z => absurd rfl z) (fun _ => ?_)
    refine r_aload3 (pc := 745) C dL_law_745 ?_
    refine r_iconst (pc := 746) C (v := nI 0) dL_law_746 (by decide) ?_
    refine r_lald (pc := 747) C (t := 399) (k := 0) (hT.f (by decide)) rfl rfl (by decide) (by decide) dL_law_747 ?_
    rw [h99.trans hval]
    refine r_iload6 (pc := 748) C dL_law_748 ?_
    refine r_i2l (pc := 750) C dL_law_750 ?_
    refine r_lcmp (pc := 751) C dL_law_751 ?_
    rw [lg_self]
    refine r_if_eq (pc := 752) C (tgt := 757) dL_law_752 (by decide) (fun _ => ?_) (fun z => absurd rfl z)
    refine r_goto (pc := 757) C (tgt := 1624) dL_law_757 (by decide) ?_
    exact next _ _ _ _ _ _ _ _ _ hT hI2
  · refine r_istore5 (pc := 715) C dL_law_715 ?_
    refine r_aload2 (pc := 717) C dL_law_717 ?_
    refine r_aload0 (pc := 718) C dL_law_718 ?_
    refine r_iload4 (pc := 719) C dL_law_719 ?_
    refine r_iconst (pc := 721) C (v := nI 1) dL_law_721 (by decide) ?_
    refine r_iadd (pc := 722) C dL_law_722 ?_
    rw [show nI iL + nI 1 = nI (iL + 1) from nI_add iL 1]
    refine r_sld (pc := 723) C hX hbl hbA (k := iL + 1) rfl (by omega) hL dL_law_723 ?_
    refine kL_130 (pc := 724) C (c_X6_boxValue l D _ _ _ hT hI.2.2.1 ((xs (iL + 1)))) (hT.f (by decide)) rfl dL_law_724 (Nat.le_of_ble_eq_true rfl) ⟨⟨rfl, rfl⟩, by decide, hc.1, hc.2⟩ ?_
    have hcd := (E_boxValue ((xs (iL + 1))) hI) he
    have hne : ¬ (cd1 (0 ≤ (xs (iL + 1)) ∧ (xs (iL + 1)) < nI nb)) = 0 := by rw [hcd]; decide
    rintro _ _ ⟨-, hy2⟩
    obtain ⟨rfl, rfl⟩ := hy2 hne
    rw [hcd]
    refine r_istore6 (pc := 727) C dL_law_727 ?_
    refine r_aload2 (pc := 729) C dL_law_729 ?_
    refine kL_101 (pc := 730) C (c_X6_thrown l D _ _ _ hT) (hT.f (by decide)) rfl dL_law_730 (Nat.le_of_ble_eq_true rfl) ⟨⟨rfl, rfl⟩, by decide, hc.1, hc.2⟩ ?_
    rintro _ _ ⟨rfl, rfl⟩
    rw [up_self]
    refine r_iload5 (pc := 733) C dL_law_733 ?_
    refine r_icmp_eq (pc := 735) C (tgt := 740) dL_law_735 (by decide) (fun _ => ?_) (fun z => absurd rfl z)
    refine r_iload5 (pc := 740) C dL_law_740 ?_
    refine r_if_ne (pc := 742) C (tgt := 757) dL_law_742 (by decide) (fun _ => ?_) (fun z => absurd z (by decide))
    refine r_goto (pc := 757) C (tgt := 1624) dL_law_757 (by decide) ?_
    exact next _ _ _ _ _ _ _ _ _ hT (INV_60 _ hI)
set_option maxRecDepth 100000 in
set_option maxHeartbeats 1000000 in
theorem lc_offered (C : CX D A RL code 7 ret tb p s m args meth c) (hNC : NC s) (hX : va_X b Ls xs s s.heap) (hbl : b < s.heap.size) (hbA : ¬ A b) (hfl : l.stackTraces = false) (hT : TG nr ng T) (hI : INV nr ng np nb σ) (hi : iL + 6 ≤ Ls) (hL : Ls ≤ 3072) {x5 x6 : Option Value} (hc : cells + 40 ≤ room_1.cells ∧ slots + 400 ≤ room_1.slots) (next : ∀ (T2 : List Nat) (ad2 : Nat → Nat) (σ2 : Mm) (nr2 ng2 np2 nb2 : Nat) (x5 x6 : Option Value), TG nr2 ng2 T2 → INV nr2 ng2 np2 nb2 σ2 → V D A 7 (T2, ad2, cO D ad2 σ2) p l e room_1 s m args below meth c (cells + 40) (slots + 400) Q 1624 [some (.ref b), some (.ref (ad2 0)), some (.ref (ad2 400)), some (.ref (ad2 399)), some (.int (nI iL)), x5, x6] []) : V D A 7 (T, ad, cO D ad σ) p l e room_1 s m args below meth c cells slots Q 760 [some (.ref b), some (.ref (ad 0)), some (.ref (ad 400)), some (.ref (ad 399)), some (.int (nI iL)), x5, x6] [] := by
  have hT0 := hT
  refine r_aload1 (pc := 760) C dL_law_760 ?_
  refine r_aload0 (pc := 761) C dL_law_761 ?_
  refine r_iload4 (pc := 762) C dL_law_762 ?_
  refine r_iconst (pc := 764) C (v := nI 1) dL_law_764 (by decide) ?_
  refine r_iadd (pc := 765) C dL_law_765 ?_
  rw [show nI iL + nI 1 = nI (iL + 1) from nI_add iL 1]
  refine r_sld (pc := 766) C hX hbl hbA (k := iL + 1) rfl (by omega) hL dL_law_766 ?_
  refine r_aload3 (pc := 767) C dL_law_767 ?_
  refine r_callW (pc := 768) C hNC (c_L_offered l D T ad σ hT ((xs (iL + 1))) (PP := (fun ov T2 ad2 σ2 => T2 = T ∧ ad2 = ad ∧ ∃ j, j < 5 ∧ (xs (iL + 1)) = nI j ∧ ov = σ 7 j ∧ σ2 = σ)) (c_X5_offered l D hfl T ad σ hT hI.1 ((xs (iL + 1)))) (fun ov S0 h => by
      obtain ⟨z0, g1, g2, g3, rfl⟩ := h
      exact ⟨T, ad, _, rfl, hT.f (by decide), rfl, rfl, rfl, z0, g1, g2, g3, rfl⟩) (fun E h => h.1)) ml_RL_131 st_L_offered ini_L cdW_L_offered hd_RL_131 rfl rfl (Nat.le_of_ble_eq_true rfl) ⟨rfl, rfl⟩ (by decide) hc dL_law_768 ?_
  intro r S1 hpost
  rcases hpost with ⟨rfl, ov, _, _, σ2, ⟨rfl, rfl, hp⟩, rfl⟩ | ⟨rfl, he, rfl⟩
  · obtain ⟨hML3, hcd, hval, h60, h99, hI2⟩ := S_offered ((xs (iL + 1))) hI hp
    refine r_istore5 (pc := 771) C dL_law_771 ?_
    refine r_aload2 (pc := 773) C dL_law_773 ?_
    refine r_aload0 (pc := 774) C dL_law_774 ?_
    refine r_iload4 (pc := 775) C dL_law_775 ?_
    refine r_iconst (pc := 777) C (v := nI 1) dL_law_777 (by decide) ?_
    refine r_iadd (pc := 778) C dL_law_778 ?_
    rw [show nI iL + nI 1 = nI (iL + 1) from nI_add iL 1]
    refine r_sld (pc := 779) C hX hbl hbA (k := iL + 1) rfl (by omega) hL dL_law_779 ?_
    refine kL_133 (pc := 780) C (c_X6_offered l D _ _ _ hT hML3 ((xs (iL + 1)))) (hT.f (by decide)) rfl dL_law_780 (Nat.le_of_ble_eq_true rfl) ⟨⟨rfl, rfl⟩, by decide, hc.1, hc.2⟩ ?_
    rintro _ _ ⟨hy1, -⟩
    obtain ⟨rfl, rfl⟩ := hy1 hcd
    refine r_istore6 (pc := 783) C dL_law_783 ?_
    refine r_aload2 (pc := 785) C dL_law_785 ?_
    refine kL_101 (pc := 786) C (c_X6_thrown l D _ _ _ hT) (hT.f (by decide)) rfl dL_law_786 (Nat.le_of_ble_eq_true rfl) ⟨⟨rfl, rfl⟩, by decide, hc.1, hc.2⟩ ?_
    rintro _ _ ⟨rfl, rfl⟩
    rw [h60]
    refine r_iload5 (pc := 789) C dL_law_789 ?_
    refine r_icmp_eq (pc := 791) C (tgt := 796) dL_law_791 (by decide) (fun _ => ?_) (fun z => absurd rfl z)
    refine r_iload5 (pc := 796) C dL_law_796 ?_
    refine r_if_ne (pc := 798) C (tgt := 813) dL_law_798 (by decide) (fun z => absurd rfl z) (fun _ => ?_)
    refine r_aload3 (pc := 801) C dL_law_801 ?_
    refine r_iconst (pc := 802) C (v := nI 0) dL_law_802 (by decide) ?_
    refine r_lald (pc := 803) C (t := 399) (k := 0) (hT.f (by decide)) rfl rfl (by decide) (by decide) dL_law_803 ?_
    rw [h99.trans hval]
    refine r_iload6 (pc := 804) C dL_law_804 ?_
    refine r_i2l (pc := 806) C dL_law_806 ?_
    refine r_lcmp (pc := 807) C dL_law_807 ?_
    rw [lg_self]
    refine r_if_eq (pc := 808) C (tgt := 813) dL_law_808 (by decide) (fun _ => ?_) (fun z => absurd rfl z)
    refine r_goto (pc := 813) C (tgt := 1624) dL_law_813 (by decide) ?_
    exact next _ _ _ _ _ _ _ _ _ hT hI2
  · refine r_istore5 (pc := 771) C dL_law_771 ?_
    refine r_aload2 (pc := 773) C dL_law_773 ?_
    refine r_aload0 (pc := 774) C dL_law_774 ?_
    refine r_iload4 (pc := 775) C dL_law_775 ?_
    refine r_iconst (pc := 777) C (v := nI 1) dL_law_777 (by decide) ?_
    refine r_iadd (pc := 778) C dL_law_778 ?_
    rw [show nI iL + nI 1 = nI (iL + 1) from nI_add iL 1]
    refine r_sld (pc := 779) C hX hbl hbA (k := iL + 1) rfl (by omega) hL dL_law_779 ?_
    refine kL_133 (pc := 780) C (c_X6_offered l D _ _ _ hT hI.2.2.1 ((xs (iL + 1)))) (hT.f (by decide)) rfl dL_law_780 (Nat.le_of_ble_eq_true rfl) ⟨⟨rfl, rfl⟩, by decide, hc.1, hc.2⟩ ?_
    have hcd := (E_offered ((xs (iL + 1))) hI) he
    have hne : ¬ (cd1 (0 ≤ (xs (iL + 1)) ∧ (xs (iL + 1)) < 5)) = 0 := by rw [hcd]; decide
    rintro _ _ ⟨-, hy2⟩
    obtain ⟨rfl, rfl⟩ := hy2 hne
    rw [hcd]
    refine r_istore6 (pc := 783) C dL_law_783 ?_
    refine r_aload2 (pc := 785) C dL_law_785 ?_
    refine kL_101 (pc := 786) C (c_X6_thrown l D _ _ _ hT) (hT.f (by decide)) rfl dL_law_786 (Nat.le_of_ble_eq_true rfl) ⟨⟨rfl, rfl⟩, by decide, hc.1, hc.2⟩ ?_
    rintro _ _ ⟨rfl, rfl⟩
    rw [up_self]
    refine r_iload5 (pc := 789) C dL_law_789 ?_
    refine r_icmp_eq (pc := 791) C (tgt := 796) dL_law_791 (by decide) (fun _ => ?_) (fun z => absurd rfl z)
    refine r_iload5 (pc := 796) C dL_law_796 ?_
    refine r_if_ne (pc := 798) C (tgt := 813) dL_law_798 (by decide) (fun _ => ?_) (fun z => absurd z (by decide))
    refine r_goto (pc := 813) C (tgt := 1624) dL_law_813 (by decide) ?_
    exact next _ _ _ _ _ _ _ _ _ hT (INV_60 _ hI)
set_option maxRecDepth 100000 in
set_option maxHeartbeats 1000000 in
theorem lc_take (C : CX D A RL code 7 ret tb p s m args meth c) (hNC : NC s) (hX : va_X b Ls xs s s.heap) (hbl : b < s.heap.size) (hbA : ¬ A b) (hfl : l.stackTraces = false) (hT : TG nr ng T) (hI : INV nr ng np nb σ) (hi : iL + 6 ≤ Ls) (hL : Ls ≤ 3072) {x5 x6 : Option Value} (hc : cells + 40 ≤ room_1.cells ∧ slots + 400 ≤ room_1.slots) (next : ∀ (T2 : List Nat) (ad2 : Nat → Nat) (σ2 : Mm) (nr2 ng2 np2 nb2 : Nat) (x5 x6 : Option Value), TG nr2 ng2 T2 → INV nr2 ng2 np2 nb2 σ2 → V D A 7 (T2, ad2, cO D ad2 σ2) p l e room_1 s m args below meth c (cells + 40) (slots + 400) Q 1624 [some (.ref b), some (.ref (ad2 0)), some (.ref (ad2 400)), some (.ref (ad2 399)), some (.int (nI iL)), x5, x6] []) : V D A 7 (T, ad, cO D ad σ) p l e room_1 s m args below meth c cells slots Q 816 [some (.ref b), some (.ref (ad 0)), some (.ref (ad 400)), some (.ref (ad 399)), some (.int (nI iL)), x5, x6] [] := by
  have hT0 := hT
  refine r_aload1 (pc := 816) C dL_law_816 ?_
  refine r_aload0 (pc := 817) C dL_law_817 ?_
  refine r_iload4 (pc := 818) C dL_law_818 ?_
  refine r_iconst (pc := 820) C (v := nI 1) dL_law_820 (by decide) ?_
  refine r_iadd (pc := 821) C dL_law_821 ?_
  rw [show nI iL + nI 1 = nI (iL + 1) from nI_add iL 1]
  refine r_sld (pc := 822) C hX hbl hbA (k := iL + 1) rfl (by omega) hL dL_law_822 ?_
  refine r_aload0 (pc := 823) C dL_law_823 ?_
  refine r_iload4 (pc := 824) C dL_law_824 ?_
  refine r_iconst (pc := 826) C (v := nI 2) dL_law_826 (by decide) ?_
  refine r_iadd (pc := 827) C dL_law_827 ?_
  rw [show nI iL + nI 2 = nI (iL + 2) from nI_add iL 2]
  refine r_sld (pc := 828) C hX hbl hbA (k := iL + 2) rfl (by omega) hL dL_law_828 ?_
  refine r_if_eq (pc := 829) C (tgt := 836) dL_law_829 (by decide) (fun c1 => ?_) (fun c1 => ?_)
  · refine r_iconst (pc := 836) C (v := 0) dL_law_836 (by decide) ?_
    refine r_aload3 (pc := 837) C dL_law_837 ?_
    refine r_callW (pc := 838) C hNC (c_L_take l D T ad σ hT ((xs (iL + 1))) ((0 : Int32)) (PP := (fun ov T2 ad2 σ2 => T2 = T ∧ ad2 = ad ∧ ∃ j, j < 5 ∧ (xs (iL + 1)) = nI j ∧ ¬ σ 7 j = -1 ∧ ov = chg (σ 6 j) (iF ((0 : Int32) = 0) (-10) 5) ∧ σ2 = (up (up (tkC σ (σ 7 j) (nI j) (0 : Int32) 40) 7 j (-1)) 6 j (chg (σ 6 j) (iF ((0 : Int32) = 0) (-10) 5))))) (c_X5_take l D hfl T ad σ hT hI.1 ((xs (iL + 1))) ((0 : Int32))) (fun ov S0 h => by
        obtain ⟨z0, g1, g2, g3, g4, rfl⟩ := h
        exact ⟨T, ad, _, rfl, hT.f (by decide), rfl, rfl, rfl, z0, g1, g2, g3, g4, rfl⟩) (fun E h => h.elim (fun h => Or.inl h.1) (fun h => Or.inr h.1))) ml_RL_134 st_L_take ini_L cdW_L_take hd_RL_134 rfl rfl (Nat.le_of_ble_eq_true rfl) ⟨rfl, rfl⟩ (by decide) hc dL_law_838 ?_
    intro r S1 hpost
    rcases hpost with ⟨rfl, ov, _, _, σ2, ⟨rfl, rfl, hp⟩, rfl⟩ | ⟨rfl, he, rfl⟩ | ⟨rfl, he, rfl⟩
    · obtain ⟨hML3, hcd, hval, h60, h99, hI2⟩ := S_take ((xs (iL + 1))) ((0 : Int32)) hI hp
      refine r_istore5 (pc := 841) C dL_law_841 ?_
      refine r_aload2 (pc := 843) C dL_law_843 ?_
      refine r_aload0 (pc := 844) C dL_law_844 ?_
      refine r_iload4 (pc := 845) C dL_law_845 ?_
      refine r_iconst (pc := 847) C (v := nI 1) dL_law_847 (by decide) ?_
      refine r_iadd (pc := 848) C dL_law_848 ?_
      rw [show nI iL + nI 1 = nI (iL + 1) from nI_add iL 1]
      refine r_sld (pc := 849) C hX hbl hbA (k := iL + 1) rfl (by omega) hL dL_law_849 ?_
      refine r_aload0 (pc := 850) C dL_law_850 ?_
      refine r_iload4 (pc := 851) C dL_law_851 ?_
      refine r_iconst (pc := 853) C (v := nI 2) dL_law_853 (by decide) ?_
      refine r_iadd (pc := 854) C dL_law_854 ?_
      rw [show nI iL + nI 2 = nI (iL + 2) from nI_add iL 2]
      refine r_sld (pc := 855) C hX hbl hbA (k := iL + 2) rfl (by omega) hL dL_law_855 ?_
      refine r_if_eq (pc := 856) C (tgt := 863) dL_law_856 (by decide) (fun c2 => ?_) (fun c2 => ?_)
      · refine r_iconst (pc := 863) C (v := 0) dL_law_863 (by decide) ?_
        refine kL_137 (pc := 864) C (c_X6_take l D _ _ _ hT hML3 ((xs (iL + 1))) ((0 : Int32))) (hT.f (by decide)) rfl dL_law_864 (Nat.le_of_ble_eq_true rfl) ⟨⟨rfl, rfl⟩, by decide, hc.1, hc.2⟩ ?_
        rintro _ _ ⟨hy1, -⟩
        obtain ⟨rfl, rfl⟩ := hy1 hcd
        refine r_istore6 (pc := 867) C dL_law_867 ?_
        refine r_aload2 (pc := 869) C dL_law_869 ?_
        refine kL_101 (pc := 870) C (c_X6_thrown l D _ _ _ hT) (hT.f (by decide)) rfl dL_law_870 (Nat.le_of_ble_eq_true rfl) ⟨⟨rfl, rfl⟩, by decide, hc.1, hc.2⟩ ?_
        rintro _ _ ⟨rfl, rfl⟩
        rw [h60]
        refine r_iload5 (pc := 873) C dL_law_873 ?_
        refine r_icmp_eq (pc := 875) C (tgt := 880) dL_law_875 (by decide) (fun _ => ?_) (fun z => absurd rfl z)
        refine r_iload5 (pc := 880) C dL_law_880 ?_
        refine r_if_ne (pc := 882) C (tgt := 897) dL_law_882 (by decide) (fun z => absurd rfl z) (fun _ => ?_)
        refine r_aload3 (pc := 885) C dL_law_885 ?_
        refine r_iconst (pc := 886) C (v := nI 0) dL_law_886 (by decide) ?_
        refine r_lald (pc := 887) C (t := 399) (k := 0) (hT.f (by decide)) rfl rfl (by decide) (by decide) dL_law_887 ?_
        rw [h99.trans hval]
        refine r_iload6 (pc := 888) C dL_law_888 ?_
        refine r_i2l (pc := 890) C dL_law_890 ?_
        refine r_lcmp (pc := 891) C dL_law_891 ?_
        rw [lg_self]
        refine r_if_eq (pc := 892) C (tgt := 897) dL_law_892 (by decide) (fun _ => ?_) (fun z => absurd rfl z)
        refine r_goto (pc := 897) C (tgt := 1624) dL_law_897 (by decide) ?_
        exact next _ _ _ _ _ _ _ _ _ hT hI2
      · exact absurd c1 c2
    · refine r_istore5 (pc := 841) C dL_law_841 ?_
      refine r_aload2 (pc := 843) C dL_law_843 ?_
      refine r_aload0 (pc := 844) C dL_law_844 ?_
      refine r_iload4 (pc := 845) C dL_law_845 ?_
      refine r_iconst (pc := 847) C (v := nI 1) dL_law_847 (by decide) ?_
      refine r_iadd (pc := 848) C dL_law_848 ?_
      rw [show nI iL + nI 1 = nI (iL + 1) from nI_add iL 1]
      refine r_sld (pc := 849) C hX hbl hbA (k := iL + 1) rfl (by omega) hL dL_law_849 ?_
      refine r_aload0 (pc := 850) C dL_law_850 ?_
      refine r_iload4 (pc := 851) C dL_law_851 ?_
      refine r_iconst (pc := 853) C (v := nI 2) dL_law_853 (by decide) ?_
      refine r_iadd (pc := 854) C dL_law_854 ?_
      rw [show nI iL + nI 2 = nI (iL + 2) from nI_add iL 2]
      refine r_sld (pc := 855) C hX hbl hbA (k := iL + 2) rfl (by omega) hL dL_law_855 ?_
      refine r_if_eq (pc := 856) C (tgt := 863) dL_law_856 (by decide) (fun c2 => ?_) (fun c2 => ?_)
      · refine r_iconst (pc := 863) C (v := 0) dL_law_863 (by decide) ?_
        refine kL_137 (pc := 864) C (c_X6_take l D _ _ _ hT hI.2.2.1 ((xs (iL + 1))) ((0 : Int32))) (hT.f (by decide)) rfl dL_law_864 (Nat.le_of_ble_eq_true rfl) ⟨⟨rfl, rfl⟩, by decide, hc.1, hc.2⟩ ?_
        have hcd := (E_take ((xs (iL + 1))) ((0 : Int32)) hI).1 he
        have hne : ¬ (cd2 (0 ≤ (xs (iL + 1)) ∧ (xs (iL + 1)) < 5) (¬ σ 81 (xs (iL + 1)).toNatClampNeg = -1)) = 0 := by rw [hcd]; decide
        rintro _ _ ⟨-, hy2⟩
        obtain ⟨rfl, rfl⟩ := hy2 hne
        rw [hcd]
        refine r_istore6 (pc := 867) C dL_law_867 ?_
        refine r_aload2 (pc := 869) C dL_law_869 ?_
        refine kL_101 (pc := 870) C (c_X6_thrown l D _ _ _ hT) (hT.f (by decide)) rfl dL_law_870 (Nat.le_of_ble_eq_true rfl) ⟨⟨rfl, rfl⟩, by decide, hc.1, hc.2⟩ ?_
        rintro _ _ ⟨rfl, rfl⟩
        rw [up_self]
        refine r_iload5 (pc := 873) C dL_law_873 ?_
        refine r_icmp_eq (pc := 875) C (tgt := 880) dL_law_875 (by decide) (fun _ => ?_) (fun z => absurd rfl z)
        refine r_iload5 (pc := 880) C dL_law_880 ?_
        refine r_if_ne (pc := 882) C (tgt := 897) dL_law_882 (by decide) (fun _ => ?_) (fun z => absurd z (by decide))
        refine r_goto (pc := 897) C (tgt := 1624) dL_law_897 (by decide) ?_
        exact next _ _ _ _ _ _ _ _ _ hT (INV_60 _ hI)
      · exact absurd c1 c2
    · refine r_istore5 (pc := 841) C dL_law_841 ?_
      refine r_aload2 (pc := 843) C dL_law_843 ?_
      refine r_aload0 (pc := 844) C dL_law_844 ?_
      refine r_iload4 (pc := 845) C dL_law_845 ?_
      refine r_iconst (pc := 847) C (v := nI 1) dL_law_847 (by decide) ?_
      refine r_iadd (pc := 848) C dL_law_848 ?_
      rw [show nI iL + nI 1 = nI (iL + 1) from nI_add iL 1]
      refine r_sld (pc := 849) C hX hbl hbA (k := iL + 1) rfl (by omega) hL dL_law_849 ?_
      refine r_aload0 (pc := 850) C dL_law_850 ?_
      refine r_iload4 (pc := 851) C dL_law_851 ?_
      refine r_iconst (pc := 853) C (v := nI 2) dL_law_853 (by decide) ?_
      refine r_iadd (pc := 854) C dL_law_854 ?_
      rw [show nI iL + nI 2 = nI (iL + 2) from nI_add iL 2]
      refine r_sld (pc := 855) C hX hbl hbA (k := iL + 2) rfl (by omega) hL dL_law_855 ?_
      refine r_if_eq (pc := 856) C (tgt := 863) dL_law_856 (by decide) (fun c2 => ?_) (fun c2 => ?_)
      · refine r_iconst (pc := 863) C (v := 0) dL_law_863 (by decide) ?_
        refine kL_137 (pc := 864) C (c_X6_take l D _ _ _ hT hI.2.2.1 ((xs (iL + 1))) ((0 : Int32))) (hT.f (by decide)) rfl dL_law_864 (Nat.le_of_ble_eq_true rfl) ⟨⟨rfl, rfl⟩, by decide, hc.1, hc.2⟩ ?_
        have hcd := (E_take ((xs (iL + 1))) ((0 : Int32)) hI).2 he
        have hne : ¬ (cd2 (0 ≤ (xs (iL + 1)) ∧ (xs (iL + 1)) < 5) (¬ σ 81 (xs (iL + 1)).toNatClampNeg = -1)) = 0 := by rw [hcd]; decide
        rintro _ _ ⟨-, hy2⟩
        obtain ⟨rfl, rfl⟩ := hy2 hne
        rw [hcd]
        refine r_istore6 (pc := 867) C dL_law_867 ?_
        refine r_aload2 (pc := 869) C dL_law_869 ?_
        refine kL_101 (pc := 870) C (c_X6_thrown l D _ _ _ hT) (hT.f (by decide)) rfl dL_law_870 (Nat.le_of_ble_eq_true rfl) ⟨⟨rfl, rfl⟩, by decide, hc.1, hc.2⟩ ?_
        rintro _ _ ⟨rfl, rfl⟩
        rw [up_self]
        refine r_iload5 (pc := 873) C dL_law_873 ?_
        refine r_icmp_eq (pc := 875) C (tgt := 880) dL_law_875 (by decide) (fun _ => ?_) (fun z => absurd rfl z)
        refine r_iload5 (pc := 880) C dL_law_880 ?_
        refine r_if_ne (pc := 882) C (tgt := 897) dL_law_882 (by decide) (fun _ => ?_) (fun z => absurd z (by decide))
        refine r_goto (pc := 897) C (tgt := 1624) dL_law_897 (by decide) ?_
        exact next _ _ _ _ _ _ _ _ _ hT (INV_60 _ hI)
      · exact absurd c1 c2
  · refine r_iconst (pc := 832) C (v := 1) dL_law_832 (by decide) ?_
    refine r_goto (pc := 833) C (tgt := 837) dL_law_833 (by decide) ?_
    refine r_aload3 (pc := 837) C dL_law_837 ?_
    refine r_callW (pc := 838) C hNC (c_L_take l D T ad σ hT ((xs (iL + 1))) ((1 : Int32)) (PP := (fun ov T2 ad2 σ2 => T2 = T ∧ ad2 = ad ∧ ∃ j, j < 5 ∧ (xs (iL + 1)) = nI j ∧ ¬ σ 7 j = -1 ∧ ov = chg (σ 6 j) (iF ((1 : Int32) = 0) (-10) 5) ∧ σ2 = (up (up (tkC σ (σ 7 j) (nI j) (1 : Int32) 40) 7 j (-1)) 6 j (chg (σ 6 j) (iF ((1 : Int32) = 0) (-10) 5))))) (c_X5_take l D hfl T ad σ hT hI.1 ((xs (iL + 1))) ((1 : Int32))) (fun ov S0 h => by
        obtain ⟨z0, g1, g2, g3, g4, rfl⟩ := h
        exact ⟨T, ad, _, rfl, hT.f (by decide), rfl, rfl, rfl, z0, g1, g2, g3, g4, rfl⟩) (fun E h => h.elim (fun h => Or.inl h.1) (fun h => Or.inr h.1))) ml_RL_134 st_L_take ini_L cdW_L_take hd_RL_134 rfl rfl (Nat.le_of_ble_eq_true rfl) ⟨rfl, rfl⟩ (by decide) hc dL_law_838 ?_
    intro r S1 hpost
    rcases hpost with ⟨rfl, ov, _, _, σ2, ⟨rfl, rfl, hp⟩, rfl⟩ | ⟨rfl, he, rfl⟩ | ⟨rfl, he, rfl⟩
    · obtain ⟨hML3, hcd, hval, h60, h99, hI2⟩ := S_take ((xs (iL + 1))) ((1 : Int32)) hI hp
      refine r_istore5 (pc := 841) C dL_law_841 ?_
      refine r_aload2 (pc := 843) C dL_law_843 ?_
      refine r_aload0 (pc := 844) C dL_law_844 ?_
      refine r_iload4 (pc := 845) C dL_law_845 ?_
      refine r_iconst (pc := 847) C (v := nI 1) dL_law_847 (by decide) ?_
      refine r_iadd (pc := 848) C dL_law_848 ?_
      rw [show nI iL + nI 1 = nI (iL + 1) from nI_add iL 1]
      refine r_sld (pc := 849) C hX hbl hbA (k := iL + 1) rfl (by omega) hL dL_law_849 ?_
      refine r_aload0 (pc := 850) C dL_law_850 ?_
      refine r_iload4 (pc := 851) C dL_law_851 ?_
      refine r_iconst (pc := 853) C (v := nI 2) dL_law_853 (by decide) ?_
      refine r_iadd (pc := 854) C dL_law_854 ?_
      rw [show nI iL + nI 2 = nI (iL + 2) from nI_add iL 2]
      refine r_sld (pc := 855) C hX hbl hbA (k := iL + 2) rfl (by omega) hL dL_law_855 ?_
      refine r_if_eq (pc := 856) C (tgt := 863) dL_law_856 (by decide) (fun c2 => ?_) (fun c2 => ?_)
      · exact absurd c2 c1
      · refine r_iconst (pc := 859) C (v := 1) dL_law_859 (by decide) ?_
        refine r_goto (pc := 860) C (tgt := 864) dL_law_860 (by decide) ?_
        refine kL_137 (pc := 864) C (c_X6_take l D _ _ _ hT hML3 ((xs (iL + 1))) ((1 : Int32))) (hT.f (by decide)) rfl dL_law_864 (Nat.le_of_ble_eq_true rfl) ⟨⟨rfl, rfl⟩, by decide, hc.1, hc.2⟩ ?_
        rintro _ _ ⟨hy1, -⟩
        obtain ⟨rfl, rfl⟩ := hy1 hcd
        refine r_istore6 (pc := 867) C dL_law_867 ?_
        refine r_aload2 (pc := 869) C dL_law_869 ?_
        refine kL_101 (pc := 870) C (c_X6_thrown l D _ _ _ hT) (hT.f (by decide)) rfl dL_law_870 (Nat.le_of_ble_eq_true rfl) ⟨⟨rfl, rfl⟩, by decide, hc.1, hc.2⟩ ?_
        rintro _ _ ⟨rfl, rfl⟩
        rw [h60]
        refine r_iload5 (pc := 873) C dL_law_873 ?_
        refine r_icmp_eq (pc := 875) C (tgt := 880) dL_law_875 (by decide) (fun _ => ?_) (fun z => absurd rfl z)
        refine r_iload5 (pc := 880) C dL_law_880 ?_
        refine r_if_ne (pc := 882) C (tgt := 897) dL_law_882 (by decide) (fun z => absurd rfl z) (fun _ => ?_)
        refine r_aload3 (pc := 885) C dL_law_885 ?_
        refine r_iconst (pc := 886) C (v := nI 0) dL_law_886 (by decide) ?_
        refine r_lald (pc := 887) C (t := 399) (k := 0) (hT.f (by decide)) rfl rfl (by decide) (by decide) dL_law_887 ?_
        rw [h99.trans hval]
        refine r_iload6 (pc := 888) C dL_law_888 ?_
        refine r_i2l (pc := 890) C dL_law_890 ?_
        refine r_lcmp (pc := 891) C dL_law_891 ?_
        rw [lg_self]
        refine r_if_eq (pc := 892) C (tgt := 897) dL_law_892 (by decide) (fun _ => ?_) (fun z => absurd rfl z)
        refine r_goto (pc := 897) C (tgt := 1624) dL_law_897 (by decide) ?_
        exact next _ _ _ _ _ _ _ _ _ hT hI2
    · refine r_istore5 (pc := 841) C dL_law_841 ?_
      refine r_aload2 (pc := 843) C dL_law_843 ?_
      refine r_aload0 (pc := 844) C dL_law_844 ?_
      refine r_iload4 (pc := 845) C dL_law_845 ?_
      refine r_iconst (pc := 847) C (v := nI 1) dL_law_847 (by decide) ?_
      refine r_iadd (pc := 848) C dL_law_848 ?_
      rw [show nI iL + nI 1 = nI (iL + 1) from nI_add iL 1]
      refine r_sld (pc := 849) C hX hbl hbA (k := iL + 1) rfl (by omega) hL dL_law_849 ?_
      refine r_aload0 (pc := 850) C dL_law_850 ?_
      refine r_iload4 (pc := 851) C dL_law_851 ?_
      refine r_iconst (pc := 853) C (v := nI 2) dL_law_853 (by decide) ?_
      refine r_iadd (pc := 854) C dL_law_854 ?_
      rw [show nI iL + nI 2 = nI (iL + 2) from nI_add iL 2]
      refine r_sld (pc := 855) C hX hbl hbA (k := iL + 2) rfl (by omega) hL dL_law_855 ?_
      refine r_if_eq (pc := 856) C (tgt := 863) dL_law_856 (by decide) (fun c2 => ?_) (fun c2 => ?_)
      · exact absurd c2 c1
      · refine r_iconst (pc := 859) C (v := 1) dL_law_859 (by decide) ?_
        refine r_goto (pc := 860) C (tgt := 864) dL_law_860 (by decide) ?_
        refine kL_137 (pc := 864) C (c_X6_take l D _ _ _ hT hI.2.2.1 ((xs (iL + 1))) ((1 : Int32))) (hT.f (by decide)) rfl dL_law_864 (Nat.le_of_ble_eq_true rfl) ⟨⟨rfl, rfl⟩, by decide, hc.1, hc.2⟩ ?_
        have hcd := (E_take ((xs (iL + 1))) ((1 : Int32)) hI).1 he
        have hne : ¬ (cd2 (0 ≤ (xs (iL + 1)) ∧ (xs (iL + 1)) < 5) (¬ σ 81 (xs (iL + 1)).toNatClampNeg = -1)) = 0 := by rw [hcd]; decide
        rintro _ _ ⟨-, hy2⟩
        obtain ⟨rfl, rfl⟩ := hy2 hne
        rw [hcd]
        refine r_istore6 (pc := 867) C dL_law_867 ?_
        refine r_aload2 (pc := 869) C dL_law_869 ?_
        refine kL_101 (pc := 870) C (c_X6_thrown l D _ _ _ hT) (hT.f (by decide)) rfl dL_law_870 (Nat.le_of_ble_eq_true rfl) ⟨⟨rfl, rfl⟩, by decide, hc.1, hc.2⟩ ?_
        rintro _ _ ⟨rfl, rfl⟩
        rw [up_self]
        refine r_iload5 (pc := 873) C dL_law_873 ?_
        refine r_icmp_eq (pc := 875) C (tgt := 880) dL_law_875 (by decide) (fun _ => ?_) (fun z => absurd rfl z)
        refine r_iload5 (pc := 880) C dL_law_880 ?_
        refine r_if_ne (pc := 882) C (tgt := 897) dL_law_882 (by decide) (fun _ => ?_) (fun z => absurd z (by decide))
        refine r_goto (pc := 897) C (tgt := 1624) dL_law_897 (by decide) ?_
        exact next _ _ _ _ _ _ _ _ _ hT (INV_60 _ hI)
    · refine r_istore5 (pc := 841) C dL_law_841 ?_
      refine r_aload2 (pc := 843) C dL_law_843 ?_
      refine r_aload0 (pc := 844) C dL_law_844 ?_
      refine r_iload4 (pc := 845) C dL_law_845 ?_
      refine r_iconst (pc := 847) C (v := nI 1) dL_law_847 (by decide) ?_
      refine r_iadd (pc := 848) C dL_law_848 ?_
      rw [show nI iL + nI 1 = nI (iL + 1) from nI_add iL 1]
      refine r_sld (pc := 849) C hX hbl hbA (k := iL + 1) rfl (by omega) hL dL_law_849 ?_
      refine r_aload0 (pc := 850) C dL_law_850 ?_
      refine r_iload4 (pc := 851) C dL_law_851 ?_
      refine r_iconst (pc := 853) C (v := nI 2) dL_law_853 (by decide) ?_
      refine r_iadd (pc := 854) C dL_law_854 ?_
      rw [show nI iL + nI 2 = nI (iL + 2) from nI_add iL 2]
      refine r_sld (pc := 855) C hX hbl hbA (k := iL + 2) rfl (by omega) hL dL_law_855 ?_
      refine r_if_eq (pc := 856) C (tgt := 863) dL_law_856 (by decide) (fun c2 => ?_) (fun c2 => ?_)
      · exact absurd c2 c1
      · refine r_iconst (pc := 859) C (v := 1) dL_law_859 (by decide) ?_
        refine r_goto (pc := 860) C (tgt := 864) dL_law_860 (by decide) ?_
        refine kL_137 (pc := 864) C (c_X6_take l D _ _ _ hT hI.2.2.1 ((xs (iL + 1))) ((1 : Int32))) (hT.f (by decide)) rfl dL_law_864 (Nat.le_of_ble_eq_true rfl) ⟨⟨rfl, rfl⟩, by decide, hc.1, hc.2⟩ ?_
        have hcd := (E_take ((xs (iL + 1))) ((1 : Int32)) hI).2 he
        have hne : ¬ (cd2 (0 ≤ (xs (iL + 1)) ∧ (xs (iL + 1)) < 5) (¬ σ 81 (xs (iL + 1)).toNatClampNeg = -1)) = 0 := by rw [hcd]; decide
        rintro _ _ ⟨-, hy2⟩
        obtain ⟨rfl, rfl⟩ := hy2 hne
        rw [hcd]
        refine r_istore6 (pc := 867) C dL_law_867 ?_
        refine r_aload2 (pc := 869) C dL_law_869 ?_
        refine kL_101 (pc := 870) C (c_X6_thrown l D _ _ _ hT) (hT.f (by decide)) rfl dL_law_870 (Nat.le_of_ble_eq_true rfl) ⟨⟨rfl, rfl⟩, by decide, hc.1, hc.2⟩ ?_
        rintro _ _ ⟨rfl, rfl⟩
        rw [up_self]
        refine r_iload5 (pc := 873) C dL_law_873 ?_
        refine r_icmp_eq (pc := 875) C (tgt := 880) dL_law_875 (by decide) (fun _ => ?_) (fun z => absurd rfl z)
        refine r_iload5 (pc := 880) C dL_law_880 ?_
        refine r_if_ne (pc := 882) C (tgt := 897) dL_law_882 (by decide) (fun _ => ?_) (fun z => absurd z (by decide))
        refine r_goto (pc := 897) C (tgt := 1624) dL_law_897 (by decide) ?_
        exact next _ _ _ _ _ _ _ _ _ hT (INV_60 _ hI)
set_option maxRecDepth 100000 in
set_option maxHeartbeats 1000000 in
theorem lc_tender (C : CX D A RL code 7 ret tb p s m args meth c) (hNC : NC s) (hX : va_X b Ls xs s s.heap) (hbl : b < s.heap.size) (hbA : ¬ A b) (hfl : l.stackTraces = false) (hT : TG nr ng T) (hI : INV nr ng np nb σ) (hi : iL + 6 ≤ Ls) (hL : Ls ≤ 3072) {x5 x6 : Option Value} (hc : cells + 40 ≤ room_1.cells ∧ slots + 400 ≤ room_1.slots) (next : ∀ (T2 : List Nat) (ad2 : Nat → Nat) (σ2 : Mm) (nr2 ng2 np2 nb2 : Nat) (x5 x6 : Option Value), TG nr2 ng2 T2 → INV nr2 ng2 np2 nb2 σ2 → V D A 7 (T2, ad2, cO D ad2 σ2) p l e room_1 s m args below meth c (cells + 40) (slots + 400) Q 1624 [some (.ref b), some (.ref (ad2 0)), some (.ref (ad2 400)), some (.ref (ad2 399)), some (.int (nI iL)), x5, x6] []) : V D A 7 (T, ad, cO D ad σ) p l e room_1 s m args below meth c cells slots Q 900 [some (.ref b), some (.ref (ad 0)), some (.ref (ad 400)), some (.ref (ad 399)), some (.int (nI iL)), x5, x6] [] := by
  have hT0 := hT
  refine r_aload1 (pc := 900) C dL_law_900 ?_
  refine r_aload0 (pc := 901) C dL_law_901 ?_
  refine r_iload4 (pc := 902) C dL_law_902 ?_
  refine r_iconst (pc := 904) C (v := nI 1) dL_law_904 (by decide) ?_
  refine r_iadd (pc := 905) C dL_law_905 ?_
  rw [show nI iL + nI 1 = nI (iL + 1) from nI_add iL 1]
  refine r_sld (pc := 906) C hX hbl hbA (k := iL + 1) rfl (by omega) hL dL_law_906 ?_
  refine r_aload0 (pc := 907) C dL_law_907 ?_
  refine r_iload4 (pc := 908) C dL_law_908 ?_
  refine r_iconst (pc := 910) C (v := nI 2) dL_law_910 (by decide) ?_
  refine r_iadd (pc := 911) C dL_law_911 ?_
  rw [show nI iL + nI 2 = nI (iL + 2) from nI_add iL 2]
  refine r_sld (pc := 912) C hX hbl hbA (k := iL + 2) rfl (by omega) hL dL_law_912 ?_
  refine r_callW (pc := 913) C hNC (c_L_tender l D T ad σ hT ((xs (iL + 1))) ((xs (iL + 2))) (PP := (fun σ2 => ∃ i, i < nr ∧ (xs (iL + 1)) = nI i ∧ (0 ≤ (xs (iL + 2)) ∧ (xs (iL + 2)) ≤ 999999) ∧ σ 28 i = 0 ∧ σ 9 0 = 0 ∧ σ2 = (upR (up (up σ 9 0 (nI (i + 1))) 9 1 (xs (iL + 2))) 10 (fillF (σ 10) (-1) 5)))) (c_X5_tender l D hfl T ad σ hT hI.1 ((xs (iL + 1))) ((xs (iL + 2)))) (fun S0 h => by
      obtain ⟨i0, g1, g2, g3, g4, g5, rfl⟩ := h
      exact ⟨_, rfl, i0, g1, g2, g3, g4, g5, rfl⟩) (fun E h => h.elim (fun h => Or.inl h.1) (fun h => h.elim (fun h => Or.inr (Or.inl h.1)) (fun h => Or.inr (Or.inr h.1))))) ml_RL_138 st_L_tender ini_L cdW_L_tender hd_RL_138 rfl rfl (Nat.le_of_ble_eq_true rfl) ⟨rfl, rfl⟩ (by decide) hc dL_law_913 ?_
  intro r S1 hpost
  rcases hpost with ⟨rfl, σ2, hp, rfl⟩ | ⟨rfl, he, rfl⟩ | ⟨rfl, he, rfl⟩ | ⟨rfl, he, rfl⟩
  · obtain ⟨hML3, hcd, h60, h99, hI2⟩ := S_tender ((xs (iL + 1))) ((xs (iL + 2))) hI hp
    refine r_istore5 (pc := 916) C dL_law_916 ?_
    refine r_aload2 (pc := 918) C dL_law_918 ?_
    refine r_aload0 (pc := 919) C dL_law_919 ?_
    refine r_iload4 (pc := 920) C dL_law_920 ?_
    refine r_iconst (pc := 922) C (v := nI 1) dL_law_922 (by decide) ?_
    refine r_iadd (pc := 923) C dL_law_923 ?_
    rw [show nI iL + nI 1 = nI (iL + 1) from nI_add iL 1]
    refine r_sld (pc := 924) C hX hbl hbA (k := iL + 1) rfl (by omega) hL dL_law_924 ?_
    refine r_aload0 (pc := 925) C dL_law_925 ?_
    refine r_iload4 (pc := 926) C dL_law_926 ?_
    refine r_iconst (pc := 928) C (v := nI 2) dL_law_928 (by decide) ?_
    refine r_iadd (pc := 929) C dL_law_929 ?_
    rw [show nI iL + nI 2 = nI (iL + 2) from nI_add iL 2]
    refine r_sld (pc := 930) C hX hbl hbA (k := iL + 2) rfl (by omega) hL dL_law_930 ?_
    refine kL_141 (pc := 931) C (c_X6_tender l D _ _ _ hT hML3 ((xs (iL + 1))) ((xs (iL + 2)))) (hT.f (by decide)) rfl dL_law_931 (Nat.le_of_ble_eq_true rfl) ⟨⟨rfl, rfl⟩, by decide, hc.1, hc.2⟩ ?_
    rintro _ ⟨hy1, -⟩
    have hS2 := hy1 hcd
    subst hS2
    refine r_aload2 (pc := 934) C dL_law_934 ?_
    refine kL_101 (pc := 935) C (c_X6_thrown l D _ _ _ hT) (hT.f (by decide)) rfl dL_law_935 (Nat.le_of_ble_eq_true rfl) ⟨⟨rfl, rfl⟩, by decide, hc.1, hc.2⟩ ?_
    rintro _ _ ⟨rfl, rfl⟩
    rw [h60]
    refine r_iload5 (pc := 938) C dL_law_938 ?_
    refine r_icmp_eq (pc := 940) C (tgt := 945) dL_law_940 (by decide) (fun _ => ?_) (fun z => absurd rfl z)
    refine r_goto (pc := 945) C (tgt := 1624) dL_law_945 (by decide) ?_
    exact next _ _ _ _ _ _ _ _ _ hT hI2
  · refine r_istore5 (pc := 916) C dL_law_916 ?_
    refine r_aload2 (pc := 918) C dL_law_918 ?_
    refine r_aload0 (pc := 919) C dL_law_919 ?_
    refine r_iload4 (pc := 920) C dL_law_920 ?_
    refine r_iconst (pc := 922) C (v := nI 1) dL_law_922 (by decide) ?_
    refine r_iadd (pc := 923) C dL_law_923 ?_
    rw [show nI iL + nI 1 = nI (iL + 1) from nI_add iL 1]
    refine r_sld (pc := 924) C hX hbl hbA (k := iL + 1) rfl (by omega) hL dL_law_924 ?_
    refine r_aload0 (pc := 925) C dL_law_925 ?_
    refine r_iload4 (pc := 926) C dL_law_926 ?_
    refine r_iconst (pc := 928) C (v := nI 2) dL_law_928 (by decide) ?_
    refine r_iadd (pc := 929) C dL_law_929 ?_
    rw [show nI iL + nI 2 = nI (iL + 2) from nI_add iL 2]
    refine r_sld (pc := 930) C hX hbl hbA (k := iL + 2) rfl (by omega) hL dL_law_930 ?_
    refine kL_141 (pc := 931) C (c_X6_tender l D _ _ _ hT hI.2.2.1 ((xs (iL + 1))) ((xs (iL + 2)))) (hT.f (by decide)) rfl dL_law_931 (Nat.le_of_ble_eq_true rfl) ⟨⟨rfl, rfl⟩, by decide, hc.1, hc.2⟩ ?_
    have hcd := (E_tender ((xs (iL + 1))) ((xs (iL + 2))) hI).1 he
    have hne : ¬ (cd3 (0 ≤ (xs (iL + 1)) ∧ (xs (iL + 1)) < nI nr) (0 ≤ (xs (iL + 2)) ∧ (xs (iL + 2)) ≤ 999999) (σ 69 (xs (iL + 1)).toNatClampNeg = 0 ∧ σ 60 23 = -1)) = 0 := by rw [hcd]; decide
    rintro _ ⟨-, hy2⟩
    have hS2 := hy2 hne
    subst hS2
    rw [hcd]
    refine r_aload2 (pc := 934) C dL_law_934 ?_
    refine kL_101 (pc := 935) C (c_X6_thrown l D _ _ _ hT) (hT.f (by decide)) rfl dL_law_935 (Nat.le_of_ble_eq_true rfl) ⟨⟨rfl, rfl⟩, by decide, hc.1, hc.2⟩ ?_
    rintro _ _ ⟨rfl, rfl⟩
    rw [up_self]
    refine r_iload5 (pc := 938) C dL_law_938 ?_
    refine r_icmp_eq (pc := 940) C (tgt := 945) dL_law_940 (by decide) (fun _ => ?_) (fun z => absurd rfl z)
    refine r_goto (pc := 945) C (tgt := 1624) dL_law_945 (by decide) ?_
    exact next _ _ _ _ _ _ _ _ _ hT (INV_60 _ hI)
  · refine r_istore5 (pc := 916) C dL_law_916 ?_
    refine r_aload2 (pc := 918) C dL_law_918 ?_
    refine r_aload0 (pc := 919) C dL_law_919 ?_
    refine r_iload4 (pc := 920) C dL_law_920 ?_
    refine r_iconst (pc := 922) C (v := nI 1) dL_law_922 (by decide) ?_
    refine r_iadd (pc := 923) C dL_law_923 ?_
    rw [show nI iL + nI 1 = nI (iL + 1) from nI_add iL 1]
    refine r_sld (pc := 924) C hX hbl hbA (k := iL + 1) rfl (by omega) hL dL_law_924 ?_
    refine r_aload0 (pc := 925) C dL_law_925 ?_
    refine r_iload4 (pc := 926) C dL_law_926 ?_
    refine r_iconst (pc := 928) C (v := nI 2) dL_law_928 (by decide) ?_
    refine r_iadd (pc := 929) C dL_law_929 ?_
    rw [show nI iL + nI 2 = nI (iL + 2) from nI_add iL 2]
    refine r_sld (pc := 930) C hX hbl hbA (k := iL + 2) rfl (by omega) hL dL_law_930 ?_
    refine kL_141 (pc := 931) C (c_X6_tender l D _ _ _ hT hI.2.2.1 ((xs (iL + 1))) ((xs (iL + 2)))) (hT.f (by decide)) rfl dL_law_931 (Nat.le_of_ble_eq_true rfl) ⟨⟨rfl, rfl⟩, by decide, hc.1, hc.2⟩ ?_
    have hcd := (E_tender ((xs (iL + 1))) ((xs (iL + 2))) hI).2.1 he
    have hne : ¬ (cd3 (0 ≤ (xs (iL + 1)) ∧ (xs (iL + 1)) < nI nr) (0 ≤ (xs (iL + 2)) ∧ (xs (iL + 2)) ≤ 999999) (σ 69 (xs (iL + 1)).toNatClampNeg = 0 ∧ σ 60 23 = -1)) = 0 := by rw [hcd]; decide
    rintro _ ⟨-, hy2⟩
    have hS2 := hy2 hne
    subst hS2
    rw [hcd]
    refine r_aload2 (pc := 934) C dL_law_934 ?_
    refine kL_101 (pc := 935) C (c_X6_thrown l D _ _ _ hT) (hT.f (by decide)) rfl dL_law_935 (Nat.le_of_ble_eq_true rfl) ⟨⟨rfl, rfl⟩, by decide, hc.1, hc.2⟩ ?_
    rintro _ _ ⟨rfl, rfl⟩
    rw [up_self]
    refine r_iload5 (pc := 938) C dL_law_938 ?_
    refine r_icmp_eq (pc := 940) C (tgt := 945) dL_law_940 (by decide) (fun _ => ?_) (fun z => absurd rfl z)
    refine r_goto (pc := 945) C (tgt := 1624) dL_law_945 (by decide) ?_
    exact next _ _ _ _ _ _ _ _ _ hT (INV_60 _ hI)
  · refine r_istore5 (pc := 916) C dL_law_916 ?_
    refine r_aload2 (pc := 918) C dL_law_918 ?_
    refine r_aload0 (pc := 919) C dL_law_919 ?_
    refine r_iload4 (pc := 920) C dL_law_920 ?_
    refine r_iconst (pc := 922) C (v := nI 1) dL_law_922 (by decide) ?_
    refine r_iadd (pc := 923) C dL_law_923 ?_
    rw [show nI iL + nI 1 = nI (iL + 1) from nI_add iL 1]
    refine r_sld (pc := 924) C hX hbl hbA (k := iL + 1) rfl (by omega) hL dL_law_924 ?_
    refine r_aload0 (pc := 925) C dL_law_925 ?_
    refine r_iload4 (pc := 926) C dL_law_926 ?_
    refine r_iconst (pc := 928) C (v := nI 2) dL_law_928 (by decide) ?_
    refine r_iadd (pc := 929) C dL_law_929 ?_
    rw [show nI iL + nI 2 = nI (iL + 2) from nI_add iL 2]
    refine r_sld (pc := 930) C hX hbl hbA (k := iL + 2) rfl (by omega) hL dL_law_930 ?_
    refine kL_141 (pc := 931) C (c_X6_tender l D _ _ _ hT hI.2.2.1 ((xs (iL + 1))) ((xs (iL + 2)))) (hT.f (by decide)) rfl dL_law_931 (Nat.le_of_ble_eq_true rfl) ⟨⟨rfl, rfl⟩, by decide, hc.1, hc.2⟩ ?_
    have hcd := (E_tender ((xs (iL + 1))) ((xs (iL + 2))) hI).2.2 he
    have hne : ¬ (cd3 (0 ≤ (xs (iL + 1)) ∧ (xs (iL + 1)) < nI nr) (0 ≤ (xs (iL + 2)) ∧ (xs (iL + 2)) ≤ 999999) (σ 69 (xs (iL + 1)).toNatClampNeg = 0 ∧ σ 60 23 = -1)) = 0 := by rw [hcd]; decide
    rintro _ ⟨-, hy2⟩
    have hS2 := hy2 hne
    subst hS2
    rw [hcd]
    refine r_aload2 (pc := 934) C dL_law_934 ?_
    refine kL_101 (pc := 935) C (c_X6_thrown l D _ _ _ hT) (hT.f (by decide)) rfl dL_law_935 (Nat.le_of_ble_eq_true rfl) ⟨⟨rfl, rfl⟩, by decide, hc.1, hc.2⟩ ?_
    rintro _ _ ⟨rfl, rfl⟩
    rw [up_self]
    refine r_iload5 (pc := 938) C dL_law_938 ?_
    refine r_icmp_eq (pc := 940) C (tgt := 945) dL_law_940 (by decide) (fun _ => ?_) (fun z => absurd rfl z)
    refine r_goto (pc := 945) C (tgt := 1624) dL_law_945 (by decide) ?_
    exact next _ _ _ _ _ _ _ _ _ hT (INV_60 _ hI)
set_option maxRecDepth 100000 in
set_option maxHeartbeats 1000000 in
theorem lc_bid (C : CX D A RL code 7 ret tb p s m args meth c) (hNC : NC s) (hX : va_X b Ls xs s s.heap) (hbl : b < s.heap.size) (hbA : ¬ A b) (hfl : l.stackTraces = false) (hT : TG nr ng T) (hI : INV nr ng np nb σ) (hi : iL + 6 ≤ Ls) (hL : Ls ≤ 3072) {x5 x6 : Option Value} (hc : cells + 40 ≤ room_1.cells ∧ slots + 400 ≤ room_1.slots) (next : ∀ (T2 : List Nat) (ad2 : Nat → Nat) (σ2 : Mm) (nr2 ng2 np2 nb2 : Nat) (x5 x6 : Option Value), TG nr2 ng2 T2 → INV nr2 ng2 np2 nb2 σ2 → V D A 7 (T2, ad2, cO D ad2 σ2) p l e room_1 s m args below meth c (cells + 40) (slots + 400) Q 1624 [some (.ref b), some (.ref (ad2 0)), some (.ref (ad2 400)), some (.ref (ad2 399)), some (.int (nI iL)), x5, x6] []) : V D A 7 (T, ad, cO D ad σ) p l e room_1 s m args below meth c cells slots Q 948 [some (.ref b), some (.ref (ad 0)), some (.ref (ad 400)), some (.ref (ad 399)), some (.int (nI iL)), x5, x6] [] := by
  have hT0 := hT
  refine r_aload1 (pc := 948) C dL_law_948 ?_
  refine r_aload0 (pc := 949) C dL_law_949 ?_
  refine r_iload4 (pc := 950) C dL_law_950 ?_
  refine r_iconst (pc := 952) C (v := nI 1) dL_law_952 (by decide) ?_
  refine r_iadd (pc := 953) C dL_law_953 ?_
  rw [show nI iL + nI 1 = nI (iL + 1) from nI_add iL 1]
  refine r_sld (pc := 954) C hX hbl hbA (k := iL + 1) rfl (by omega) hL dL_law_954 ?_
  refine r_aload0 (pc := 955) C dL_law_955 ?_
  refine r_iload4 (pc := 956) C dL_law_956 ?_
  refine r_iconst (pc := 958) C (v := nI 2) dL_law_958 (by decide) ?_
  refine r_iadd (pc := 959) C dL_law_959 ?_
  rw [show nI iL + nI 2 = nI (iL + 2) from nI_add iL 2]
  refine r_sld (pc := 960) C hX hbl hbA (k := iL + 2) rfl (by omega) hL dL_law_960 ?_
  refine r_aload3 (pc := 961) C dL_law_961 ?_
  refine r_callW (pc := 962) C hNC (c_L_bid l D T ad σ hT ((xs (iL + 1))) ((xs (iL + 2))) (PP := (fun ov T2 ad2 σ2 => T2 = T ∧ ad2 = ad ∧ ∃ j, j < 5 ∧ (xs (iL + 1)) = nI j ∧ (1 ≤ (xs (iL + 2)) ∧ (xs (iL + 2)) ≤ 999999) ∧ ¬ σ 9 0 = 0 ∧ ov = σ 10 j ∧ σ2 = (up σ 10 j (xs (iL + 2))))) (c_X5_bid l D hfl T ad σ hT hI.1 ((xs (iL + 1))) ((xs (iL + 2)))) (fun ov S0 h => by
      obtain ⟨z0, g1, g2, g3, g4, g5, rfl⟩ := h
      exact ⟨T, ad, _, rfl, hT.f (by decide), rfl, rfl, rfl, z0, g1, g2, g3, g4, g5, rfl⟩) (fun E h => h.elim (fun h => Or.inl h.1) (fun h => h.elim (fun h => Or.inr (Or.inl h.1)) (fun h => Or.inr (Or.inr h.1))))) ml_RL_142 st_L_bid ini_L cdW_L_bid hd_RL_142 rfl rfl (Nat.le_of_ble_eq_true rfl) ⟨rfl, rfl⟩ (by decide) hc dL_law_962 ?_
  intro r S1 hpost
  rcases hpost with ⟨rfl, ov, _, _, σ2, ⟨rfl, rfl, hp⟩, rfl⟩ | ⟨rfl, he, rfl⟩ | ⟨rfl, he, rfl⟩ | ⟨rfl, he, rfl⟩
  · obtain ⟨hML3, hcd, hval, h60, h99, hI2⟩ := S_bid ((xs (iL + 1))) ((xs (iL + 2))) hI hp
    refine r_istore5 (pc := 965) C dL_law_965 ?_
    refine r_aload2 (pc := 967) C dL_law_967 ?_
    refine r_aload0 (pc := 968) C dL_law_968 ?_
    refine r_iload4 (pc := 969) C dL_law_969 ?_
    refine r_iconst (pc := 971) C (v := nI 1) dL_law_971 (by decide) ?_
    refine r_iadd (pc := 972) C dL_law_972 ?_
    rw [show nI iL + nI 1 = nI (iL + 1) from nI_add iL 1]
    refine r_sld (pc := 973) C hX hbl hbA (k := iL + 1) rfl (by omega) hL dL_law_973 ?_
    refine r_aload0 (pc := 974) C dL_law_974 ?_
    refine r_iload4 (pc := 975) C dL_law_975 ?_
    refine r_iconst (pc := 977) C (v := nI 2) dL_law_977 (by decide) ?_
    refine r_iadd (pc := 978) C dL_law_978 ?_
    rw [show nI iL + nI 2 = nI (iL + 2) from nI_add iL 2]
    refine r_sld (pc := 979) C hX hbl hbA (k := iL + 2) rfl (by omega) hL dL_law_979 ?_
    refine kL_144 (pc := 980) C (c_X6_bid l D _ _ _ hT hML3 ((xs (iL + 1))) ((xs (iL + 2)))) (hT.f (by decide)) rfl dL_law_980 (Nat.le_of_ble_eq_true rfl) ⟨⟨rfl, rfl⟩, by decide, hc.1, hc.2⟩ ?_
    rintro _ _ ⟨hy1, -⟩
    obtain ⟨rfl, rfl⟩ := hy1 hcd
    refine r_istore6 (pc := 983) C dL_law_983 ?_
    refine r_aload2 (pc := 985) C dL_law_985 ?_
    refine kL_101 (pc := 986) C (c_X6_thrown l D _ _ _ hT) (hT.f (by decide)) rfl dL_law_986 (Nat.le_of_ble_eq_true rfl) ⟨⟨rfl, rfl⟩, by decide, hc.1, hc.2⟩ ?_
    rintro _ _ ⟨rfl, rfl⟩
    rw [h60]
    refine r_iload5 (pc := 989) C dL_law_989 ?_
    refine r_icmp_eq (pc := 991) C (tgt := 996) dL_law_991 (by decide) (fun _ => ?_) (fun z => absurd rfl z)
    refine r_iload5 (pc := 996) C dL_law_996 ?_
    refine r_if_ne (pc := 998) C (tgt := 1013) dL_law_998 (by decide) (fun z => absurd rfl z) (fun _ => ?_)
    refine r_aload3 (pc := 1001) C dL_law_1001 ?_
    refine r_iconst (pc := 1002) C (v := nI 0) dL_law_1002 (by decide) ?_
    refine r_lald (pc := 1003) C (t := 399) (k := 0) (hT.f (by decide)) rfl rfl (by decide) (by decide) dL_law_1003 ?_
    rw [h99.trans hval]
    refine r_iload6 (pc := 1004) C dL_law_1004 ?_
    refine r_i2l (pc := 1006) C dL_law_1006 ?_
    refine r_lcmp (pc := 1007) C dL_law_1007 ?_
    rw [lg_self]
    refine r_if_eq (pc := 1008) C (tgt := 1013) dL_law_1008 (by decide) (fun _ => ?_) (fun z => absurd rfl z)
    refine r_goto (pc := 1013) C (tgt := 1624) dL_law_1013 (by decide) ?_
    exact next _ _ _ _ _ _ _ _ _ hT hI2
  · refine r_istore5 (pc := 965) C dL_law_965 ?_
    refine r_aload2 (pc := 967) C dL_law_967 ?_
    refine r_aload0 (pc := 968) C dL_law_968 ?_
    refine r_iload4 (pc := 969) C dL_law_969 ?_
    refine r_iconst (pc := 971) C (v := nI 1) dL_law_971 (by decide) ?_
    refine r_iadd (pc := 972) C dL_law_972 ?_
    rw [show nI iL + nI 1 = nI (iL + 1) from nI_add iL 1]
    refine r_sld (pc := 973) C hX hbl hbA (k := iL + 1) rfl (by omega) hL dL_law_973 ?_
    refine r_aload0 (pc := 974) C dL_law_974 ?_
    refine r_iload4 (pc := 975) C dL_law_975 ?_
    refine r_iconst (pc := 977) C (v := nI 2) dL_law_977 (by decide) ?_
    refine r_iadd (pc := 978) C dL_law_978 ?_
    rw [show nI iL + nI 2 = nI (iL + 2) from nI_add iL 2]
    refine r_sld (pc := 979) C hX hbl hbA (k := iL + 2) rfl (by omega) hL dL_law_979 ?_
    refine kL_144 (pc := 980) C (c_X6_bid l D _ _ _ hT hI.2.2.1 ((xs (iL + 1))) ((xs (iL + 2)))) (hT.f (by decide)) rfl dL_law_980 (Nat.le_of_ble_eq_true rfl) ⟨⟨rfl, rfl⟩, by decide, hc.1, hc.2⟩ ?_
    have hcd := (E_bid ((xs (iL + 1))) ((xs (iL + 2))) hI).1 he
    have hne : ¬ (cd3 (0 ≤ (xs (iL + 1)) ∧ (xs (iL + 1)) < 5) (1 ≤ (xs (iL + 2)) ∧ (xs (iL + 2)) ≤ 999999) (¬ σ 60 23 = -1)) = 0 := by rw [hcd]; decide
    rintro _ _ ⟨-, hy2⟩
    obtain ⟨rfl, rfl⟩ := hy2 hne
    rw [hcd]
    refine r_istore6 (pc := 983) C dL_law_983 ?_
    refine r_aload2 (pc := 985) C dL_law_985 ?_
    refine kL_101 (pc := 986) C (c_X6_thrown l D _ _ _ hT) (hT.f (by decide)) rfl dL_law_986 (Nat.le_of_ble_eq_true rfl) ⟨⟨rfl, rfl⟩, by decide, hc.1, hc.2⟩ ?_
    rintro _ _ ⟨rfl, rfl⟩
    rw [up_self]
    refine r_iload5 (pc := 989) C dL_law_989 ?_
    refine r_icmp_eq (pc := 991) C (tgt := 996) dL_law_991 (by decide) (fun _ => ?_) (fun z => absurd rfl z)
    refine r_iload5 (pc := 996) C dL_law_996 ?_
    refine r_if_ne (pc := 998) C (tgt := 1013) dL_law_998 (by decide) (fun _ => ?_) (fun z => absurd z (by decide))
    refine r_goto (pc := 1013) C (tgt := 1624) dL_law_1013 (by decide) ?_
    exact next _ _ _ _ _ _ _ _ _ hT (INV_60 _ hI)
  · refine r_istore5 (pc := 965) C dL_law_965 ?_
    refine r_aload2 (pc := 967) C dL_law_967 ?_
    refine r_aload0 (pc := 968) C dL_law_968 ?_
    refine r_iload4 (pc := 969) C dL_law_969 ?_
    refine r_iconst (pc := 971) C (v := nI 1) dL_law_971 (by decide) ?_
    refine r_iadd (pc := 972) C dL_law_972 ?_
    rw [show nI iL + nI 1 = nI (iL + 1) from nI_add iL 1]
    refine r_sld (pc := 973) C hX hbl hbA (k := iL + 1) rfl (by omega) hL dL_law_973 ?_
    refine r_aload0 (pc := 974) C dL_law_974 ?_
    refine r_iload4 (pc := 975) C dL_law_975 ?_
    refine r_iconst (pc := 977) C (v := nI 2) dL_law_977 (by decide) ?_
    refine r_iadd (pc := 978) C dL_law_978 ?_
    rw [show nI iL + nI 2 = nI (iL + 2) from nI_add iL 2]
    refine r_sld (pc := 979) C hX hbl hbA (k := iL + 2) rfl (by omega) hL dL_law_979 ?_
    refine kL_144 (pc := 980) C (c_X6_bid l D _ _ _ hT hI.2.2.1 ((xs (iL + 1))) ((xs (iL + 2)))) (hT.f (by decide)) rfl dL_law_980 (Nat.le_of_ble_eq_true rfl) ⟨⟨rfl, rfl⟩, by decide, hc.1, hc.2⟩ ?_
    have hcd := (E_bid ((xs (iL + 1))) ((xs (iL + 2))) hI).2.1 he
    have hne : ¬ (cd3 (0 ≤ (xs (iL + 1)) ∧ (xs (iL + 1)) < 5) (1 ≤ (xs (iL + 2)) ∧ (xs (iL + 2)) ≤ 999999) (¬ σ 60 23 = -1)) = 0 := by rw [hcd]; decide
    rintro _ _ ⟨-, hy2⟩
    obtain ⟨rfl, rfl⟩ := hy2 hne
    rw [hcd]
    refine r_istore6 (pc := 983) C dL_law_983 ?_
    refine r_aload2 (pc := 985) C dL_law_985 ?_
    refine kL_101 (pc := 986) C (c_X6_thrown l D _ _ _ hT) (hT.f (by decide)) rfl dL_law_986 (Nat.le_of_ble_eq_true rfl) ⟨⟨rfl, rfl⟩, by decide, hc.1, hc.2⟩ ?_
    rintro _ _ ⟨rfl, rfl⟩
    rw [up_self]
    refine r_iload5 (pc := 989) C dL_law_989 ?_
    refine r_icmp_eq (pc := 991) C (tgt := 996) dL_law_991 (by decide) (fun _ => ?_) (fun z => absurd rfl z)
    refine r_iload5 (pc := 996) C dL_law_996 ?_
    refine r_if_ne (pc := 998) C (tgt := 1013) dL_law_998 (by decide) (fun _ => ?_) (fun z => absurd z (by decide))
    refine r_goto (pc := 1013) C (tgt := 1624) dL_law_1013 (by decide) ?_
    exact next _ _ _ _ _ _ _ _ _ hT (INV_60 _ hI)
  · refine r_istore5 (pc := 965) C dL_law_965 ?_
    refine r_aload2 (pc := 967) C dL_law_967 ?_
    refine r_aload0 (pc := 968) C dL_law_968 ?_
    refine r_iload4 (pc := 969) C dL_law_969 ?_
    refine r_iconst (pc := 971) C (v := nI 1) dL_law_971 (by decide) ?_
    refine r_iadd (pc := 972) C dL_law_972 ?_
    rw [show nI iL + nI 1 = nI (iL + 1) from nI_add iL 1]
    refine r_sld (pc := 973) C hX hbl hbA (k := iL + 1) rfl (by omega) hL dL_law_973 ?_
    refine r_aload0 (pc := 974) C dL_law_974 ?_
    refine r_iload4 (pc := 975) C dL_law_975 ?_
    refine r_iconst (pc := 977) C (v := nI 2) dL_law_977 (by decide) ?_
    refine r_iadd (pc := 978) C dL_law_978 ?_
    rw [show nI iL + nI 2 = nI (iL + 2) from nI_add iL 2]
    refine r_sld (pc := 979) C hX hbl hbA (k := iL + 2) rfl (by omega) hL dL_law_979 ?_
    refine kL_144 (pc := 980) C (c_X6_bid l D _ _ _ hT hI.2.2.1 ((xs (iL + 1))) ((xs (iL + 2)))) (hT.f (by decide)) rfl dL_law_980 (Nat.le_of_ble_eq_true rfl) ⟨⟨rfl, rfl⟩, by decide, hc.1, hc.2⟩ ?_
    have hcd := (E_bid ((xs (iL + 1))) ((xs (iL + 2))) hI).2.2 he
    have hne : ¬ (cd3 (0 ≤ (xs (iL + 1)) ∧ (xs (iL + 1)) < 5) (1 ≤ (xs (iL + 2)) ∧ (xs (iL + 2)) ≤ 999999) (¬ σ 60 23 = -1)) = 0 := by rw [hcd]; decide
    rintro _ _ ⟨-, hy2⟩
    obtain ⟨rfl, rfl⟩ := hy2 hne
    rw [hcd]
    refine r_istore6 (pc := 983) C dL_law_983 ?_
    refine r_aload2 (pc := 985) C dL_law_985 ?_
    refine kL_101 (pc := 986) C (c_X6_thrown l D _ _ _ hT) (hT.f (by decide)) rfl dL_law_986 (Nat.le_of_ble_eq_true rfl) ⟨⟨rfl, rfl⟩, by decide, hc.1, hc.2⟩ ?_
    rintro _ _ ⟨rfl, rfl⟩
    rw [up_self]
    refine r_iload5 (pc := 989) C dL_law_989 ?_
    refine r_icmp_eq (pc := 991) C (tgt := 996) dL_law_991 (by decide) (fun _ => ?_) (fun z => absurd rfl z)
    refine r_iload5 (pc := 996) C dL_law_996 ?_
    refine r_if_ne (pc := 998) C (tgt := 1013) dL_law_998 (by decide) (fun _ => ?_) (fun z => absurd z (by decide))
    refine r_goto (pc := 1013) C (tgt := 1624) dL_law_1013 (by decide) ?_
    exact next _ _ _ _ _ _ _ _ _ hT (INV_60 _ hI)
set_option maxRecDepth 100000 in
set_option maxHeartbeats 1000000 in
theorem lc_close (C : CX D A RL code 7 ret tb p s m args meth c) (hNC : NC s) (hX : va_X b Ls xs s s.heap) (hbl : b < s.heap.size) (hbA : ¬ A b) (hfl : l.stackTraces = false) (hT : TG nr ng T) (hI : INV nr ng np nb σ) (hi : iL + 6 ≤ Ls) (hL : Ls ≤ 3072) {x5 x6 : Option Value} (hc : cells + 40 ≤ room_1.cells ∧ slots + 400 ≤ room_1.slots) (next : ∀ (T2 : List Nat) (ad2 : Nat → Nat) (σ2 : Mm) (nr2 ng2 np2 nb2 : Nat) (x5 x6 : Option Value), TG nr2 ng2 T2 → INV nr2 ng2 np2 nb2 σ2 → V D A 7 (T2, ad2, cO D ad2 σ2) p l e room_1 s m args below meth c (cells + 40) (slots + 400) Q 1624 [some (.ref b), some (.ref (ad2 0)), some (.ref (ad2 400)), some (.ref (ad2 399)), some (.int (nI iL)), x5, x6] []) : V D A 7 (T, ad, cO D ad σ) p l e room_1 s m args below meth c cells slots Q 1016 [some (.ref b), some (.ref (ad 0)), some (.ref (ad 400)), some (.ref (ad 399)), some (.int (nI iL)), x5, x6] [] := by
  have hT0 := hT
  refine r_aload1 (pc := 1016) C dL_law_1016 ?_
  refine r_aload3 (pc := 1017) C dL_law_1017 ?_
  refine r_callW (pc := 1018) C hNC (c_L_close l D T ad σ hT (PP := (fun ov T2 ad2 σ2 => T2 = T ∧ ad2 = ad ∧ ∃ i, i < nr ∧ σ 9 0 = nI (i + 1) ∧ ov = twC σ 5 ∧ σ2 = (clsC σ i))) (c_X5_close l D hfl T ad σ hT hI.1 ) (fun ov S0 h => by
      obtain ⟨z0, g1, g2, g3, rfl⟩ := h
      exact ⟨T, ad, _, rfl, hT.f (by decide), rfl, rfl, rfl, z0, g1, g2, g3, rfl⟩) (fun E h => h.1)) ml_RL_145 st_L_close ini_L cdW_L_close hd_RL_145 rfl rfl (Nat.le_of_ble_eq_true rfl) ⟨rfl, rfl⟩ (by decide) hc dL_law_1018 ?_
  intro r S1 hpost
  rcases hpost with ⟨rfl, ov, _, _, σ2, ⟨rfl, rfl, hp⟩, rfl⟩ | ⟨rfl, he, rfl⟩
  · obtain ⟨hML3, hcd, hval, h60, h99, hI2⟩ := S_close  hI hp
    refine r_istore5 (pc := 1021) C dL_law_1021 ?_
    refine r_aload2 (pc := 1023) C dL_law_1023 ?_
    refine kL_148 (pc := 1024) C (c_X6_close l D _ _ _ hT hML3 ) (hT.f (by decide)) rfl dL_law_1024 (Nat.le_of_ble_eq_true rfl) ⟨⟨rfl, rfl⟩, by decide, hc.1, hc.2⟩ ?_
    rintro _ _ ⟨hy1, -⟩
    obtain ⟨rfl, rfl⟩ := hy1 hcd
    refine r_istore6 (pc := 1027) C dL_law_1027 ?_
    refine r_aload2 (pc := 1029) C dL_law_1029 ?_
    refine kL_101 (pc := 1030) C (c_X6_thrown l D _ _ _ hT) (hT.f (by decide)) rfl dL_law_1030 (Nat.le_of_ble_eq_true rfl) ⟨⟨rfl, rfl⟩, by decide, hc.1, hc.2⟩ ?_
    rintro _ _ ⟨rfl, rfl⟩
    rw [h60]
    refine r_iload5 (pc := 1033) C dL_law_1033 ?_
    refine r_icmp_eq (pc := 1035) C (tgt := 1040) dL_law_1035 (by decide) (fun _ => ?_) (fun z => absurd rfl z)
    refine r_iload5 (pc := 1040) C dL_law_1040 ?_
    refine r_if_ne (pc := 1042) C (tgt := 1057) dL_law_1042 (by decide) (fun z => absurd rfl z) (fun _ => ?_)
    refine r_aload3 (pc := 1045) C dL_law_1045 ?_
    refine r_iconst (pc := 1046) C (v := nI 0) dL_law_1046 (by decide) ?_
    refine r_lald (pc := 1047) C (t := 399) (k := 0) (hT.f (by decide)) rfl rfl (by decide) (by decide) dL_law_1047 ?_
    rw [h99.trans hval]
    refine r_iload6 (pc := 1048) C dL_law_1048 ?_
    refine r_i2l (pc := 1050) C dL_law_1050 ?_
    refine r_lcmp (pc := 1051) C dL_law_1051 ?_
    rw [lg_self]
    refine r_if_eq (pc := 1052) C (tgt := 1057) dL_law_1052 (by decide) (fun _ => ?_) (fun z => absurd rfl z)
    refine r_goto (pc := 1057) C (tgt := 1624) dL_law_1057 (by decide) ?_
    exact next _ _ _ _ _ _ _ _ _ hT hI2
  · refine r_istore5 (pc := 1021) C dL_law_1021 ?_
    refine r_aload2 (pc := 1023) C dL_law_1023 ?_
    refine kL_148 (pc := 1024) C (c_X6_close l D _ _ _ hT hI.2.2.1 ) (hT.f (by decide)) rfl dL_law_1024 (Nat.le_of_ble_eq_true rfl) ⟨⟨rfl, rfl⟩, by decide, hc.1, hc.2⟩ ?_
    have hcd := (E_close  hI) he
    have hne : ¬ (cd1 (¬ σ 60 23 = -1)) = 0 := by rw [hcd]; decide
    rintro _ _ ⟨-, hy2⟩
    obtain ⟨rfl, rfl⟩ := hy2 hne
    rw [hcd]
    refine r_istore6 (pc := 1027) C dL_law_1027 ?_
    refine r_aload2 (pc := 1029) C dL_law_1029 ?_
    refine kL_101 (pc := 1030) C (c_X6_thrown l D _ _ _ hT) (hT.f (by decide)) rfl dL_law_1030 (Nat.le_of_ble_eq_true rfl) ⟨⟨rfl, rfl⟩, by decide, hc.1, hc.2⟩ ?_
    rintro _ _ ⟨rfl, rfl⟩
    rw [up_self]
    refine r_iload5 (pc := 1033) C dL_law_1033 ?_
    refine r_icmp_eq (pc := 1035) C (tgt := 1040) dL_law_1035 (by decide) (fun _ => ?_) (fun z => absurd rfl z)
    refine r_iload5 (pc := 1040) C dL_law_1040 ?_
    refine r_if_ne (pc := 1042) C (tgt := 1057) dL_law_1042 (by decide) (fun _ => ?_) (fun z => absurd z (by decide))
    refine r_goto (pc := 1057) C (tgt := 1624) dL_law_1057 (by decide) ?_
    exact next _ _ _ _ _ _ _ _ _ hT (INV_60 _ hI)
set_option maxRecDepth 100000 in
set_option maxHeartbeats 1000000 in
theorem lc_plan (C : CX D A RL code 7 ret tb p s m args meth c) (hNC : NC s) (hX : va_X b Ls xs s s.heap) (hbl : b < s.heap.size) (hbA : ¬ A b) (hfl : l.stackTraces = false) (hT : TG nr ng T) (hI : INV nr ng np nb σ) (hi : iL + 6 ≤ Ls) (hL : Ls ≤ 3072) {x5 x6 : Option Value} (hc : cells + 40 ≤ room_1.cells ∧ slots + 400 ≤ room_1.slots) (next : ∀ (T2 : List Nat) (ad2 : Nat → Nat) (σ2 : Mm) (nr2 ng2 np2 nb2 : Nat) (x5 x6 : Option Value), TG nr2 ng2 T2 → INV nr2 ng2 np2 nb2 σ2 → V D A 7 (T2, ad2, cO D ad2 σ2) p l e room_1 s m args below meth c (cells + 40) (slots + 400) Q 1624 [some (.ref b), some (.ref (ad2 0)), some (.ref (ad2 400)), some (.ref (ad2 399)), some (.int (nI iL)), x5, x6] []) : V D A 7 (T, ad, cO D ad σ) p l e room_1 s m args below meth c cells slots Q 1060 [some (.ref b), some (.ref (ad 0)), some (.ref (ad 400)), some (.ref (ad 399)), some (.int (nI iL)), x5, x6] [] := by
  have hT0 := hT
  refine r_aload1 (pc := 1060) C dL_law_1060 ?_
  refine r_aload0 (pc := 1061) C dL_law_1061 ?_
  refine r_iload4 (pc := 1062) C dL_law_1062 ?_
  refine r_iconst (pc := 1064) C (v := nI 1) dL_law_1064 (by decide) ?_
  refine r_iadd (pc := 1065) C dL_law_1065 ?_
  rw [show nI iL + nI 1 = nI (iL + 1) from nI_add iL 1]
  refine r_sld (pc := 1066) C hX hbl hbA (k := iL + 1) rfl (by omega) hL dL_law_1066 ?_
  refine r_aload3 (pc := 1067) C dL_law_1067 ?_
  refine r_callW (pc := 1068) C hNC (c_L_plan l D T ad σ hT ((xs (iL + 1))) (PP := (fun ov T2 ad2 σ2 => T2 = T ∧ ad2 = ad ∧ ∃ i, i < nr ∧ (xs (iL + 1)) = nI i ∧ ov = nI (plS (σ 26 i) 12) ∧ σ2 = σ)) (c_X5_plan l D hfl T ad σ hT hI.1 ((xs (iL + 1)))) (fun ov S0 h => by
      obtain ⟨z0, g1, g2, g3, rfl⟩ := h
      exact ⟨T, ad, _, rfl, hT.f (by decide), rfl, rfl, rfl, z0, g1, g2, g3, rfl⟩) (fun E h => h.1)) ml_RL_149 st_L_plan ini_L cdW_L_plan hd_RL_149 rfl rfl (Nat.le_of_ble_eq_true rfl) ⟨rfl, rfl⟩ (by decide) hc dL_law_1068 ?_
  intro r S1 hpost
  rcases hpost with ⟨rfl, ov, _, _, σ2, ⟨rfl, rfl, hp⟩, rfl⟩ | ⟨rfl, he, rfl⟩
  · obtain ⟨hML3, hcd, hval, h60, h99, hI2⟩ := S_plan ((xs (iL + 1))) hI hp
    refine r_istore5 (pc := 1071) C dL_law_1071 ?_
    refine r_aload2 (pc := 1073) C dL_law_1073 ?_
    refine r_aload0 (pc := 1074) C dL_law_1074 ?_
    refine r_iload4 (pc := 1075) C dL_law_1075 ?_
    refine r_iconst (pc := 1077) C (v := nI 1) dL_law_1077 (by decide) ?_
    refine r_iadd (pc := 1078) C dL_law_1078 ?_
    rw [show nI iL + nI 1 = nI (iL + 1) from nI_add iL 1]
    refine r_sld (pc := 1079) C hX hbl hbA (k := iL + 1) rfl (by omega) hL dL_law_1079 ?_
    refine kL_151 (pc := 1080) C (c_X6_plan l D _ _ _ hT hML3 ((xs (iL + 1)))) (hT.f (by decide)) rfl dL_law_1080 (Nat.le_of_ble_eq_true rfl) ⟨⟨rfl, rfl⟩, by decide, hc.1, hc.2⟩ ?_
    rintro _ _ ⟨hy1, -⟩
    obtain ⟨rfl, rfl⟩ := hy1 hcd
    refine r_istore6 (pc := 1083) C dL_law_1083 ?_
    refine r_aload2 (pc := 1085) C dL_law_1085 ?_
    refine kL_101 (pc := 1086) C (c_X6_thrown l D _ _ _ hT) (hT.f (by decide)) rfl dL_law_1086 (Nat.le_of_ble_eq_true rfl) ⟨⟨rfl, rfl⟩, by decide, hc.1, hc.2⟩ ?_
    rintro _ _ ⟨rfl, rfl⟩
    rw [h60]
    refine r_iload5 (pc := 1089) C dL_law_1089 ?_
    refine r_icmp_eq (pc := 1091) C (tgt := 1096) dL_law_1091 (by decide) (fun _ => ?_) (fun z => absurd rfl z)
    refine r_iload5 (pc := 1096) C dL_law_1096 ?_
    refine r_if_ne (pc := 1098) C (tgt := 1113) dL_law_1098 (by decide) (fun z => absurd rfl z) (fun _ => ?_)
    refine r_aload3 (pc := 1101) C dL_law_1101 ?_
    refine r_iconst (pc := 1102) C (v := nI 0) dL_law_1102 (by decide) ?_
    refine r_lald (pc := 1103) C (t := 399) (k := 0) (hT.f (by decide)) rfl rfl (by decide) (by decide) dL_law_1103 ?_
    rw [h99.trans hval]
    refine r_iload6 (pc := 1104) C dL_law_1104 ?_
    refine r_i2l (pc := 1106) C dL_law_1106 ?_
    refine r_lcmp (pc := 1107) C dL_law_1107 ?_
    rw [lg_self]
    refine r_if_eq (pc := 1108) C (tgt := 1113) dL_law_1108 (by decide) (fun _ => ?_) (fun z => absurd rfl z)
    refine r_goto (pc := 1113) C (tgt := 1624) dL_law_1113 (by decide) ?_
    exact next _ _ _ _ _ _ _ _ _ hT hI2
  · refine r_istore5 (pc := 1071) C dL_law_1071 ?_
    refine r_aload2 (pc := 1073) C dL_law_1073 ?_
    refine r_aload0 (pc := 1074) C dL_law_1074 ?_
    refine r_iload4 (pc := 1075) C dL_law_1075 ?_
    refine r_iconst (pc := 1077) C (v := nI 1) dL_law_1077 (by decide) ?_
    refine r_iadd (pc := 1078) C dL_law_1078 ?_
    rw [show nI iL + nI 1 = nI (iL + 1) from nI_add iL 1]
    refine r_sld (pc := 1079) C hX hbl hbA (k := iL + 1) rfl (by omega) hL dL_law_1079 ?_
    refine kL_151 (pc := 1080) C (c_X6_plan l D _ _ _ hT hI.2.2.1 ((xs (iL + 1)))) (hT.f (by decide)) rfl dL_law_1080 (Nat.le_of_ble_eq_true rfl) ⟨⟨rfl, rfl⟩, by decide, hc.1, hc.2⟩ ?_
    have hcd := (E_plan ((xs (iL + 1))) hI) he
    have hne : ¬ (cd1 (0 ≤ (xs (iL + 1)) ∧ (xs (iL + 1)) < nI nr)) = 0 := by rw [hcd]; decide
    rintro _ _ ⟨-, hy2⟩
    obtain ⟨rfl, rfl⟩ := hy2 hne
    rw [hcd]
    refine r_istore6 (pc := 1083) C dL_law_1083 ?_
    refine r_aload2 (pc := 1085) C dL_law_1085 ?_
    refine kL_101 (pc := 1086) C (c_X6_thrown l D _ _ _ hT) (hT.f (by decide)) rfl dL_law_1086 (Nat.le_of_ble_eq_true rfl) ⟨⟨rfl, rfl⟩, by decide, hc.1, hc.2⟩ ?_
    rintro _ _ ⟨rfl, rfl⟩
    rw [up_self]
    refine r_iload5 (pc := 1089) C dL_law_1089 ?_
    refine r_icmp_eq (pc := 1091) C (tgt := 1096) dL_law_1091 (by decide) (fun _ => ?_) (fun z => absurd rfl z)
    refine r_iload5 (pc := 1096) C dL_law_1096 ?_
    refine r_if_ne (pc := 1098) C (tgt := 1113) dL_law_1098 (by decide) (fun _ => ?_) (fun z => absurd z (by decide))
    refine r_goto (pc := 1113) C (tgt := 1624) dL_law_1113 (by decide) ?_
    exact next _ _ _ _ _ _ _ _ _ hT (INV_60 _ hI)
set_option maxRecDepth 100000 in
set_option maxHeartbeats 1000000 in
theorem lc_planAnew (C : CX D A RL code 7 ret tb p s m args meth c) (hNC : NC s) (hX : va_X b Ls xs s s.heap) (hbl : b < s.heap.size) (hbA : ¬ A b) (hfl : l.stackTraces = false) (hT : TG nr ng T) (hI : INV nr ng np nb σ) (hi : iL + 6 ≤ Ls) (hL : Ls ≤ 3072) {x5 x6 : Option Value} (hc : cells + 40 ≤ room_1.cells ∧ slots + 400 ≤ room_1.slots) (next : ∀ (T2 : List Nat) (ad2 : Nat → Nat) (σ2 : Mm) (nr2 ng2 np2 nb2 : Nat) (x5 x6 : Option Value), TG nr2 ng2 T2 → INV nr2 ng2 np2 nb2 σ2 → V D A 7 (T2, ad2, cO D ad2 σ2) p l e room_1 s m args below meth c (cells + 40) (slots + 400) Q 1624 [some (.ref b), some (.ref (ad2 0)), some (.ref (ad2 400)), some (.ref (ad2 399)), some (.int (nI iL)), x5, x6] []) : V D A 7 (T, ad, cO D ad σ) p l e room_1 s m args below meth c cells slots Q 1116 [some (.ref b), some (.ref (ad 0)), some (.ref (ad 400)), some (.ref (ad 399)), some (.int (nI iL)), x5, x6] [] := by
  have hT0 := hT
  refine r_aload1 (pc := 1116) C dL_law_1116 ?_
  refine r_aload0 (pc := 1117) C dL_law_1117 ?_
  refine r_iload4 (pc := 1118) C dL_law_1118 ?_
  refine r_iconst (pc := 1120) C (v := nI 1) dL_law_1120 (by decide) ?_
  refine r_iadd (pc := 1121) C dL_law_1121 ?_
  rw [show nI iL + nI 1 = nI (iL + 1) from nI_add iL 1]
  refine r_sld (pc := 1122) C hX hbl hbA (k := iL + 1) rfl (by omega) hL dL_law_1122 ?_
  refine r_aload3 (pc := 1123) C dL_law_1123 ?_
  refine r_callW (pc := 1124) C hNC (c_L_planAnew l D T ad σ hT ((xs (iL + 1))) (PP := (fun ov T2 ad2 σ2 => T2 = T ∧ ad2 = ad ∧ ∃ i, i < nr ∧ (xs (iL + 1)) = nI i ∧ ov = paS (σ 26 i) 4096 ∧ σ2 = σ)) (c_X5_planAnew l D hfl T ad σ hT hI.1 ((xs (iL + 1)))) (fun ov S0 h => by
      obtain ⟨z0, g1, g2, g3, rfl⟩ := h
      exact ⟨T, ad, _, rfl, hT.f (by decide), rfl, rfl, rfl, z0, g1, g2, g3, rfl⟩) (fun E h => h.1)) ml_RL_152 st_L_planAnew ini_L cdW_L_planAnew hd_RL_152 rfl rfl (Nat.le_of_ble_eq_true rfl) ⟨rfl, rfl⟩ (by decide) hc dL_law_1124 ?_
  intro r S1 hpost
  rcases hpost with ⟨rfl, ov, _, _, σ2, ⟨rfl, rfl, hp⟩, rfl⟩ | ⟨rfl, he, rfl⟩
  · obtain ⟨hML3, hcd, hval, h60, h99, hI2⟩ := S_planAnew ((xs (iL + 1))) hI hp
    refine r_istore5 (pc := 1127) C dL_law_1127 ?_
    refine r_aload2 (pc := 1129) C dL_law_1129 ?_
    refine r_aload0 (pc := 1130) C dL_law_1130 ?_
    refine r_iload4 (pc := 1131) C dL_law_1131 ?_
    refine r_iconst (pc := 1133) C (v := nI 1) dL_law_1133 (by decide) ?_
    refine r_iadd (pc := 1134) C dL_law_1134 ?_
    rw [show nI iL + nI 1 = nI (iL + 1) from nI_add iL 1]
    refine r_sld (pc := 1135) C hX hbl hbA (k := iL + 1) rfl (by omega) hL dL_law_1135 ?_
    refine kL_154 (pc := 1136) C (c_X6_planAnew l D _ _ _ hT hML3 ((xs (iL + 1)))) (hT.f (by decide)) rfl dL_law_1136 (Nat.le_of_ble_eq_true rfl) ⟨⟨rfl, rfl⟩, by decide, hc.1, hc.2⟩ ?_
    rintro _ _ ⟨hy1, -⟩
    obtain ⟨rfl, rfl⟩ := hy1 hcd
    refine r_istore6 (pc := 1139) C dL_law_1139 ?_
    refine r_aload2 (pc := 1141) C dL_law_1141 ?_
    refine kL_101 (pc := 1142) C (c_X6_thrown l D _ _ _ hT) (hT.f (by decide)) rfl dL_law_1142 (Nat.le_of_ble_eq_true rfl) ⟨⟨rfl, rfl⟩, by decide, hc.1, hc.2⟩ ?_
    rintro _ _ ⟨rfl, rfl⟩
    rw [h60]
    refine r_iload5 (pc := 1145) C dL_law_1145 ?_
    refine r_icmp_eq (pc := 1147) C (tgt := 1152) dL_law_1147 (by decide) (fun _ => ?_) (fun z => absurd rfl z)
    refine r_iload5 (pc := 1152) C dL_law_1152 ?_
    refine r_if_ne (pc := 1154) C (tgt := 1169) dL_law_1154 (by decide) (fun z => absurd rfl z) (fun _ => ?_)
    refine r_aload3 (pc := 1157) C dL_law_1157 ?_
    refine r_iconst (pc := 1158) C (v := nI 0) dL_law_1158 (by decide) ?_
    refine r_lald (pc := 1159) C (t := 399) (k := 0) (hT.f (by decide)) rfl rfl (by decide) (by decide) dL_law_1159 ?_
    rw [h99.trans hval]
    refine r_iload6 (pc := 1160) C dL_law_1160 ?_
    refine r_i2l (pc := 1162) C dL_law_1162 ?_
    refine r_lcmp (pc := 1163) C dL_law_1163 ?_
    rw [lg_self]
    refine r_if_eq (pc := 1164) C (tgt := 1169) dL_law_1164 (by decide) (fun _ => ?_) (fun z => absurd rfl z)
    refine r_goto (pc := 1169) C (tgt := 1624) dL_law_1169 (by decide) ?_
    exact next _ _ _ _ _ _ _ _ _ hT hI2
  · refine r_istore5 (pc := 1127) C dL_law_1127 ?_
    refine r_aload2 (pc := 1129) C dL_law_1129 ?_
    refine r_aload0 (pc := 1130) C dL_law_1130 ?_
    refine r_iload4 (pc := 1131) C dL_law_1131 ?_
    refine r_iconst (pc := 1133) C (v := nI 1) dL_law_1133 (by decide) ?_
    refine r_iadd (pc := 1134) C dL_law_1134 ?_
    rw [show nI iL + nI 1 = nI (iL + 1) from nI_add iL 1]
    refine r_sld (pc := 1135) C hX hbl hbA (k := iL + 1) rfl (by omega) hL dL_law_1135 ?_
    refine kL_154 (pc := 1136) C (c_X6_planAnew l D _ _ _ hT hI.2.2.1 ((xs (iL + 1)))) (hT.f (by decide)) rfl dL_law_1136 (Nat.le_of_ble_eq_true rfl) ⟨⟨rfl, rfl⟩, by decide, hc.1, hc.2⟩ ?_
    have hcd := (E_planAnew ((xs (iL + 1))) hI) he
    have hne : ¬ (cd1 (0 ≤ (xs (iL + 1)) ∧ (xs (iL + 1)) < nI nr)) = 0 := by rw [hcd]; decide
    rintro _ _ ⟨-, hy2⟩
    obtain ⟨rfl, rfl⟩ := hy2 hne
    rw [hcd]
    refine r_istore6 (pc := 1139) C dL_law_1139 ?_
    refine r_aload2 (pc := 1141) C dL_law_1141 ?_
    refine kL_101 (pc := 1142) C (c_X6_thrown l D _ _ _ hT) (hT.f (by decide)) rfl dL_law_1142 (Nat.le_of_ble_eq_true rfl) ⟨⟨rfl, rfl⟩, by decide, hc.1, hc.2⟩ ?_
    rintro _ _ ⟨rfl, rfl⟩
    rw [up_self]
    refine r_iload5 (pc := 1145) C dL_law_1145 ?_
    refine r_icmp_eq (pc := 1147) C (tgt := 1152) dL_law_1147 (by decide) (fun _ => ?_) (fun z => absurd rfl z)
    refine r_iload5 (pc := 1152) C dL_law_1152 ?_
    refine r_if_ne (pc := 1154) C (tgt := 1169) dL_law_1154 (by decide) (fun _ => ?_) (fun z => absurd z (by decide))
    refine r_goto (pc := 1169) C (tgt := 1624) dL_law_1169 (by decide) ?_
    exact next _ _ _ _ _ _ _ _ _ hT (INV_60 _ hI)
set_option maxRecDepth 100000 in
set_option maxHeartbeats 1000000 in
theorem lc_cut (C : CX D A RL code 7 ret tb p s m args meth c) (hNC : NC s) (hX : va_X b Ls xs s s.heap) (hbl : b < s.heap.size) (hbA : ¬ A b) (hfl : l.stackTraces = false) (hT : TG nr ng T) (hI : INV nr ng np nb σ) (hi : iL + 6 ≤ Ls) (hL : Ls ≤ 3072) {x5 x6 : Option Value} (hc : cells + 40 ≤ room_1.cells ∧ slots + 400 ≤ room_1.slots) (next : ∀ (T2 : List Nat) (ad2 : Nat → Nat) (σ2 : Mm) (nr2 ng2 np2 nb2 : Nat) (x5 x6 : Option Value), TG nr2 ng2 T2 → INV nr2 ng2 np2 nb2 σ2 → V D A 7 (T2, ad2, cO D ad2 σ2) p l e room_1 s m args below meth c (cells + 40) (slots + 400) Q 1624 [some (.ref b), some (.ref (ad2 0)), some (.ref (ad2 400)), some (.ref (ad2 399)), some (.int (nI iL)), x5, x6] []) : V D A 7 (T, ad, cO D ad σ) p l e room_1 s m args below meth c cells slots Q 1172 [some (.ref b), some (.ref (ad 0)), some (.ref (ad 400)), some (.ref (ad 399)), some (.int (nI iL)), x5, x6] [] := by
  have hT0 := hT
  refine r_aload1 (pc := 1172) C dL_law_1172 ?_
  refine r_aload0 (pc := 1173) C dL_law_1173 ?_
  refine r_iload4 (pc := 1174) C dL_law_1174 ?_
  refine r_iconst (pc := 1176) C (v := nI 1) dL_law_1176 (by decide) ?_
  refine r_iadd (pc := 1177) C dL_law_1177 ?_
  rw [show nI iL + nI 1 = nI (iL + 1) from nI_add iL 1]
  refine r_sld (pc := 1178) C hX hbl hbA (k := iL + 1) rfl (by omega) hL dL_law_1178 ?_
  refine r_aload3 (pc := 1179) C dL_law_1179 ?_
  refine r_callW (pc := 1180) C hNC (c_L_cut l D T ad σ hT ((xs (iL + 1))) (PP := (fun ov T2 ad2 σ2 => ∃ (i0 : Nat), (i0 < nr ∧ (xs (iL + 1)) = nI i0 ∧ (¬ σ 28 i0 = 1 ∧ ¬ σ 28 i0 = 3) ∧ ng + pcN (σ 26 i0) 12 ≤ 80) ∧ ov = nI (pcN (σ 26 i0) 12) ∧ σ2 = (cutC σ ng i0) ∧ TG nr (ng + pcN (σ 26 i0) 12) T2 ∧ (∀ k, k ∈ T → ad2 k = ad k))) (c_X5_cut l D hfl T ad σ hT hI.1 hI.2.1 ((xs (iL + 1)))) (fun ov S0 h => by
      obtain ⟨T2, ad2, i9, h1, h2, h3, h4, rfl⟩ := h
      exact ⟨T2, ad2, _, rfl, h2.f (by decide), h3 _ (hT.f (by decide)), i9, h1, h4, rfl, h2, h3⟩) (fun E h => h.elim (fun h => Or.inl h.1) (fun h => Or.inr h.1))) ml_RL_155 st_L_cut ini_L cdW_L_cut hd_RL_155 rfl rfl (Nat.le_of_ble_eq_true rfl) ⟨rfl, rfl⟩ (by decide) hc dL_law_1180 ?_
  intro r S1 hpost
  rcases hpost with ⟨rfl, ov, T2, ad2, σ2, hp, rfl⟩ | ⟨rfl, he, rfl⟩ | ⟨rfl, he, rfl⟩
  · obtain ⟨i9, h1, h4, h5, hT2, had⟩ := hp
    rw [← had 0 (hT.f (by decide)), ← had 400 (hT.f (by decide)), ← had 399 (hT.f (by decide))]
    obtain ⟨hML3, hcd, hval, h60, h99, hI2⟩ := S_cut ((xs (iL + 1))) hI ⟨i9, h1, h4, h5⟩
    have e9 : i9 = ((xs (iL + 1))).toNatClampNeg := by rw [h1.2.1, nI_clamp (by have := h1.1; have := hT0.1; omega)]
    rw [e9] at hT2
    refine r_istore5 (pc := 1183) C dL_law_1183 ?_
    refine r_aload2 (pc := 1185) C dL_law_1185 ?_
    refine r_aload0 (pc := 1186) C dL_law_1186 ?_
    refine r_iload4 (pc := 1187) C dL_law_1187 ?_
    refine r_iconst (pc := 1189) C (v := nI 1) dL_law_1189 (by decide) ?_
    refine r_iadd (pc := 1190) C dL_law_1190 ?_
    rw [show nI iL + nI 1 = nI (iL + 1) from nI_add iL 1]
    refine r_sld (pc := 1191) C hX hbl hbA (k := iL + 1) rfl (by omega) hL dL_law_1191 ?_
    refine kL_157 (pc := 1192) C (c_X6_cut l D _ _ _ hT2 hML3 ((xs (iL + 1)))) (hT2.f (by decide)) rfl dL_law_1192 (Nat.le_of_ble_eq_true rfl) ⟨⟨rfl, rfl⟩, by decide, hc.1, hc.2⟩ ?_
    rintro _ _ ⟨hy1, -⟩
    obtain ⟨rfl, rfl⟩ := hy1 hcd
    refine r_istore6 (pc := 1195) C dL_law_1195 ?_
    refine r_aload2 (pc := 1197) C dL_law_1197 ?_
    refine kL_101 (pc := 1198) C (c_X6_thrown l D _ _ _ hT2) (hT2.f (by decide)) rfl dL_law_1198 (Nat.le_of_ble_eq_true rfl) ⟨⟨rfl, rfl⟩, by decide, hc.1, hc.2⟩ ?_
    rintro _ _ ⟨rfl, rfl⟩
    rw [h60]
    refine r_iload5 (pc := 1201) C dL_law_1201 ?_
    refine r_icmp_eq (pc := 1203) C (tgt := 1208) dL_law_1203 (by decide) (fun _ => ?_) (fun z => absurd rfl z)
    refine r_iload5 (pc := 1208) C dL_law_1208 ?_
    refine r_if_ne (pc := 1210) C (tgt := 1225) dL_law_1210 (by decide) (fun z => absurd rfl z) (fun _ => ?_)
    refine r_aload3 (pc := 1213) C dL_law_1213 ?_
    refine r_iconst (pc := 1214) C (v := nI 0) dL_law_1214 (by decide) ?_
    refine r_lald (pc := 1215) C (t := 399) (k := 0) (hT2.f (by decide)) rfl rfl (by decide) (by decide) dL_law_1215 ?_
    rw [h99.trans hval]
    refine r_iload6 (pc := 1216) C dL_law_1216 ?_
    refine r_i2l (pc := 1218) C dL_law_1218 ?_
    refine r_lcmp (pc := 1219) C dL_law_1219 ?_
    rw [lg_self]
    refine r_if_eq (pc := 1220) C (tgt := 1225) dL_law_1220 (by decide) (fun _ => ?_) (fun z => absurd rfl z)
    refine r_goto (pc := 1225) C (tgt := 1624) dL_law_1225 (by decide) ?_
    exact next _ _ _ _ _ _ _ _ _ hT2 hI2
  · refine r_istore5 (pc := 1183) C dL_law_1183 ?_
    refine r_aload2 (pc := 1185) C dL_law_1185 ?_
    refine r_aload0 (pc := 1186) C dL_law_1186 ?_
    refine r_iload4 (pc := 1187) C dL_law_1187 ?_
    refine r_iconst (pc := 1189) C (v := nI 1) dL_law_1189 (by decide) ?_
    refine r_iadd (pc := 1190) C dL_law_1190 ?_
    rw [show nI iL + nI 1 = nI (iL + 1) from nI_add iL 1]
    refine r_sld (pc := 1191) C hX hbl hbA (k := iL + 1) rfl (by omega) hL dL_law_1191 ?_
    refine kL_157 (pc := 1192) C (c_X6_cut l D _ _ _ hT hI.2.2.1 ((xs (iL + 1)))) (hT.f (by decide)) rfl dL_law_1192 (Nat.le_of_ble_eq_true rfl) ⟨⟨rfl, rfl⟩, by decide, hc.1, hc.2⟩ ?_
    have hcd := (E_cut ((xs (iL + 1))) hI).1 he
    have hne : ¬ (cd2 (0 ≤ (xs (iL + 1)) ∧ (xs (iL + 1)) < nI nr) ((σ 69 (xs (iL + 1)).toNatClampNeg = 0 ∨ σ 69 (xs (iL + 1)).toNatClampNeg = 2) ∧ ng + pcN (σ 68 (xs (iL + 1)).toNatClampNeg) 12 ≤ 80)) = 0 := by rw [hcd]; decide
    rintro _ _ ⟨-, hy2⟩
    obtain ⟨rfl, rfl⟩ := hy2 hne
    rw [hcd]
    refine r_istore6 (pc := 1195) C dL_law_1195 ?_
    refine r_aload2 (pc := 1197) C dL_law_1197 ?_
    refine kL_101 (pc := 1198) C (c_X6_thrown l D _ _ _ hT) (hT.f (by decide)) rfl dL_law_1198 (Nat.le_of_ble_eq_true rfl) ⟨⟨rfl, rfl⟩, by decide, hc.1, hc.2⟩ ?_
    rintro _ _ ⟨rfl, rfl⟩
    rw [up_self]
    refine r_iload5 (pc := 1201) C dL_law_1201 ?_
    refine r_icmp_eq (pc := 1203) C (tgt := 1208) dL_law_1203 (by decide) (fun _ => ?_) (fun z => absurd rfl z)
    refine r_iload5 (pc := 1208) C dL_law_1208 ?_
    refine r_if_ne (pc := 1210) C (tgt := 1225) dL_law_1210 (by decide) (fun _ => ?_) (fun z => absurd z (by decide))
    refine r_goto (pc := 1225) C (tgt := 1624) dL_law_1225 (by decide) ?_
    exact next _ _ _ _ _ _ _ _ _ hT (INV_60 _ hI)
  · refine r_istore5 (pc := 1183) C dL_law_1183 ?_
    refine r_aload2 (pc := 1185) C dL_law_1185 ?_
    refine r_aload0 (pc := 1186) C dL_law_1186 ?_
    refine r_iload4 (pc := 1187) C dL_law_1187 ?_
    refine r_iconst (pc := 1189) C (v := nI 1) dL_law_1189 (by decide) ?_
    refine r_iadd (pc := 1190) C dL_law_1190 ?_
    rw [show nI iL + nI 1 = nI (iL + 1) from nI_add iL 1]
    refine r_sld (pc := 1191) C hX hbl hbA (k := iL + 1) rfl (by omega) hL dL_law_1191 ?_
    refine kL_157 (pc := 1192) C (c_X6_cut l D _ _ _ hT hI.2.2.1 ((xs (iL + 1)))) (hT.f (by decide)) rfl dL_law_1192 (Nat.le_of_ble_eq_true rfl) ⟨⟨rfl, rfl⟩, by decide, hc.1, hc.2⟩ ?_
    have hcd := (E_cut ((xs (iL + 1))) hI).2 he
    have hne : ¬ (cd2 (0 ≤ (xs (iL + 1)) ∧ (xs (iL + 1)) < nI nr) ((σ 69 (xs (iL + 1)).toNatClampNeg = 0 ∨ σ 69 (xs (iL + 1)).toNatClampNeg = 2) ∧ ng + pcN (σ 68 (xs (iL + 1)).toNatClampNeg) 12 ≤ 80)) = 0 := by rw [hcd]; decide
    rintro _ _ ⟨-, hy2⟩
    obtain ⟨rfl, rfl⟩ := hy2 hne
    rw [hcd]
    refine r_istore6 (pc := 1195) C dL_law_1195 ?_
    refine r_aload2 (pc := 1197) C dL_law_1197 ?_
    refine kL_101 (pc := 1198) C (c_X6_thrown l D _ _ _ hT) (hT.f (by decide)) rfl dL_law_1198 (Nat.le_of_ble_eq_true rfl) ⟨⟨rfl, rfl⟩, by decide, hc.1, hc.2⟩ ?_
    rintro _ _ ⟨rfl, rfl⟩
    rw [up_self]
    refine r_iload5 (pc := 1201) C dL_law_1201 ?_
    refine r_icmp_eq (pc := 1203) C (tgt := 1208) dL_law_1203 (by decide) (fun _ => ?_) (fun z => absurd rfl z)
    refine r_iload5 (pc := 1208) C dL_law_1208 ?_
    refine r_if_ne (pc := 1210) C (tgt := 1225) dL_law_1210 (by decide) (fun _ => ?_) (fun z => absurd z (by decide))
    refine r_goto (pc := 1225) C (tgt := 1624) dL_law_1225 (by decide) ?_
    exact next _ _ _ _ _ _ _ _ _ hT (INV_60 _ hI)
set_option maxRecDepth 100000 in
set_option maxHeartbeats 1000000 in
theorem lc_recut (C : CX D A RL code 7 ret tb p s m args meth c) (hNC : NC s) (hX : va_X b Ls xs s s.heap) (hbl : b < s.heap.size) (hbA : ¬ A b) (hfl : l.stackTraces = false) (hT : TG nr ng T) (hI : INV nr ng np nb σ) (hi : iL + 6 ≤ Ls) (hL : Ls ≤ 3072) {x5 x6 : Option Value} (hc : cells + 40 ≤ room_1.cells ∧ slots + 400 ≤ room_1.slots) (next : ∀ (T2 : List Nat) (ad2 : Nat → Nat) (σ2 : Mm) (nr2 ng2 np2 nb2 : Nat) (x5 x6 : Option Value), TG nr2 ng2 T2 → INV nr2 ng2 np2 nb2 σ2 → V D A 7 (T2, ad2, cO D ad2 σ2) p l e room_1 s m args below meth c (cells + 40) (slots + 400) Q 1624 [some (.ref b), some (.ref (ad2 0)), some (.ref (ad2 400)), some (.ref (ad2 399)), some (.int (nI iL)), x5, x6] []) : V D A 7 (T, ad, cO D ad σ) p l e room_1 s m args below meth c cells slots Q 1228 [some (.ref b), some (.ref (ad 0)), some (.ref (ad 400)), some (.ref (ad 399)), some (.int (nI iL)), x5, x6] [] := by
  have hT0 := hT
  refine r_aload1 (pc := 1228) C dL_law_1228 ?_
  refine r_aload0 (pc := 1229) C dL_law_1229 ?_
  refine r_iload4 (pc := 1230) C dL_law_1230 ?_
  refine r_iconst (pc := 1232) C (v := nI 1) dL_law_1232 (by decide) ?_
  refine r_iadd (pc := 1233) C dL_law_1233 ?_
  rw [show nI iL + nI 1 = nI (iL + 1) from nI_add iL 1]
  refine r_sld (pc := 1234) C hX hbl hbA (k := iL + 1) rfl (by omega) hL dL_law_1234 ?_
  refine r_aload0 (pc := 1235) C dL_law_1235 ?_
  refine r_iload4 (pc := 1236) C dL_law_1236 ?_
  refine r_iconst (pc := 1238) C (v := nI 2) dL_law_1238 (by decide) ?_
  refine r_iadd (pc := 1239) C dL_law_1239 ?_
  rw [show nI iL + nI 2 = nI (iL + 2) from nI_add iL 2]
  refine r_sld (pc := 1240) C hX hbl hbA (k := iL + 2) rfl (by omega) hL dL_law_1240 ?_
  refine r_aload3 (pc := 1241) C dL_law_1241 ?_
  refine r_callW (pc := 1242) C hNC (c_L_recut l D T ad σ hT ((xs (iL + 1))) ((xs (iL + 2))) (PP := (fun ov T2 ad2 σ2 => T2 = T ∧ ad2 = ad ∧ ∃ i, i < ng ∧ (xs (iL + 1)) = nI i ∧ (1 ≤ (xs (iL + 2)) ∧ (xs (iL + 2)) ≤ σ 47 i - 1) ∧ ov = σ 47 i - (xs (iL + 2)) ∧ σ2 = (up (up σ 47 i (xs (iL + 2))) 0 13 (σ 0 13 + (σ 47 i - (xs (iL + 2))))))) (c_X5_recut l D hfl T ad σ hT hI.1 ((xs (iL + 1))) ((xs (iL + 2)))) (fun ov S0 h => by
      obtain ⟨z0, g1, g2, g3, g4, rfl⟩ := h
      exact ⟨T, ad, _, rfl, hT.f (by decide), rfl, rfl, rfl, z0, g1, g2, g3, g4, rfl⟩) (fun E h => h.elim (fun h => Or.inl h.1) (fun h => Or.inr h.1))) ml_RL_158 st_L_recut ini_L cdW_L_recut hd_RL_158 rfl rfl (Nat.le_of_ble_eq_true rfl) ⟨rfl, rfl⟩ (by decide) hc dL_law_1242 ?_
  intro r S1 hpost
  rcases hpost with ⟨rfl, ov, _, _, σ2, ⟨rfl, rfl, hp⟩, rfl⟩ | ⟨rfl, he, rfl⟩ | ⟨rfl, he, rfl⟩
  · obtain ⟨hML3, hcd, hval, h60, h99, hI2⟩ := S_recut ((xs (iL + 1))) ((xs (iL + 2))) hI hp
    refine r_istore5 (pc := 1245) C dL_law_1245 ?_
    refine r_aload2 (pc := 1247) C dL_law_1247 ?_
    refine r_aload0 (pc := 1248) C dL_law_1248 ?_
    refine r_iload4 (pc := 1249) C dL_law_1249 ?_
    refine r_iconst (pc := 1251) C (v := nI 1) dL_law_1251 (by decide) ?_
    refine r_iadd (pc := 1252) C dL_law_1252 ?_
    rw [show nI iL + nI 1 = nI (iL + 1) from nI_add iL 1]
    refine r_sld (pc := 1253) C hX hbl hbA (k := iL + 1) rfl (by omega) hL dL_law_1253 ?_
    refine r_aload0 (pc := 1254) C dL_law_1254 ?_
    refine r_iload4 (pc := 1255) C dL_law_1255 ?_
    refine r_iconst (pc := 1257) C (v := nI 2) dL_law_1257 (by decide) ?_
    refine r_iadd (pc := 1258) C dL_law_1258 ?_
    rw [show nI iL + nI 2 = nI (iL + 2) from nI_add iL 2]
    refine r_sld (pc := 1259) C hX hbl hbA (k := iL + 2) rfl (by omega) hL dL_law_1259 ?_
    refine kL_160 (pc := 1260) C (c_X6_recut l D _ _ _ hT hML3 ((xs (iL + 1))) ((xs (iL + 2)))) (hT.f (by decide)) rfl dL_law_1260 (Nat.le_of_ble_eq_true rfl) ⟨⟨rfl, rfl⟩, by decide, hc.1, hc.2⟩ ?_
    rintro _ _ ⟨hy1, -⟩
    obtain ⟨rfl, rfl⟩ := hy1 hcd
    refine r_istore6 (pc := 1263) C dL_law_1263 ?_
    refine r_aload2 (pc := 1265) C dL_law_1265 ?_
    refine kL_101 (pc := 1266) C (c_X6_thrown l D _ _ _ hT) (hT.f (by decide)) rfl dL_law_1266 (Nat.le_of_ble_eq_true rfl) ⟨⟨rfl, rfl⟩, by decide, hc.1, hc.2⟩ ?_
    rintro _ _ ⟨rfl, rfl⟩
    rw [h60]
    refine r_iload5 (pc := 1269) C dL_law_1269 ?_
    refine r_icmp_eq (pc := 1271) C (tgt := 1276) dL_law_1271 (by decide) (fun _ => ?_) (fun z => absurd rfl z)
    refine r_iload5 (pc := 1276) C dL_law_1276 ?_
    refine r_if_ne (pc := 1278) C (tgt := 1293) dL_law_1278 (by decide) (fun z => absurd rfl z) (fun _ => ?_)
    refine r_aload3 (pc := 1281) C dL_law_1281 ?_
    refine r_iconst (pc := 1282) C (v := nI 0) dL_law_1282 (by decide) ?_
    refine r_lald (pc := 1283) C (t := 399) (k := 0) (hT.f (by decide)) rfl rfl (by decide) (by decide) dL_law_1283 ?_
    rw [h99.trans hval]
    refine r_iload6 (pc := 1284) C dL_law_1284 ?_
    refine r_i2l (pc := 1286) C dL_law_1286 ?_
    refine r_lcmp (pc := 1287) C dL_law_1287 ?_
    rw [lg_self]
    refine r_if_eq (pc := 1288) C (tgt := 1293) dL_law_1288 (by decide) (fun _ => ?_) (fun z => absurd rfl z)
    refine r_goto (pc := 1293) C (tgt := 1624) dL_law_1293 (by decide) ?_
    exact next _ _ _ _ _ _ _ _ _ hT hI2
  · refine r_istore5 (pc := 1245) C dL_law_1245 ?_
    refine r_aload2 (pc := 1247) C dL_law_1247 ?_
    refine r_aload0 (pc := 1248) C dL_law_1248 ?_
    refine r_iload4 (pc := 1249) C dL_law_1249 ?_
    refine r_iconst (pc := 1251) C (v := nI 1) dL_law_1251 (by decide) ?_
    refine r_iadd (pc := 1252) C dL_law_1252 ?_
    rw [show nI iL + nI 1 = nI (iL + 1) from nI_add iL 1]
    refine r_sld (pc := 1253) C hX hbl hbA (k := iL + 1) rfl (by omega) hL dL_law_1253 ?_
    refine r_aload0 (pc := 1254) C dL_law_1254 ?_
    refine r_iload4 (pc := 1255) C dL_law_1255 ?_
    refine r_iconst (pc := 1257) C (v := nI 2) dL_law_1257 (by decide) ?_
    refine r_iadd (pc := 1258) C dL_law_1258 ?_
    rw [show nI iL + nI 2 = nI (iL + 2) from nI_add iL 2]
    refine r_sld (pc := 1259) C hX hbl hbA (k := iL + 2) rfl (by omega) hL dL_law_1259 ?_
    refine kL_160 (pc := 1260) C (c_X6_recut l D _ _ _ hT hI.2.2.1 ((xs (iL + 1))) ((xs (iL + 2)))) (hT.f (by decide)) rfl dL_law_1260 (Nat.le_of_ble_eq_true rfl) ⟨⟨rfl, rfl⟩, by decide, hc.1, hc.2⟩ ?_
    have hcd := (E_recut ((xs (iL + 1))) ((xs (iL + 2))) hI).1 he
    have hne : ¬ (cd2 (0 ≤ (xs (iL + 1)) ∧ (xs (iL + 1)) < nI ng) (1 ≤ (xs (iL + 2)) ∧ (xs (iL + 2)) ≤ σ 88 (xs (iL + 1)).toNatClampNeg - 1)) = 0 := by rw [hcd]; decide
    rintro _ _ ⟨-, hy2⟩
    obtain ⟨rfl, rfl⟩ := hy2 hne
    rw [hcd]
    refine r_istore6 (pc := 1263) C dL_law_1263 ?_
    refine r_aload2 (pc := 1265) C dL_law_1265 ?_
    refine kL_101 (pc := 1266) C (c_X6_thrown l D _ _ _ hT) (hT.f (by decide)) rfl dL_law_1266 (Nat.le_of_ble_eq_true rfl) ⟨⟨rfl, rfl⟩, by decide, hc.1, hc.2⟩ ?_
    rintro _ _ ⟨rfl, rfl⟩
    rw [up_self]
    refine r_iload5 (pc := 1269) C dL_law_1269 ?_
    refine r_icmp_eq (pc := 1271) C (tgt := 1276) dL_law_1271 (by decide) (fun _ => ?_) (fun z => absurd rfl z)
    refine r_iload5 (pc := 1276) C dL_law_1276 ?_
    refine r_if_ne (pc := 1278) C (tgt := 1293) dL_law_1278 (by decide) (fun _ => ?_) (fun z => absurd z (by decide))
    refine r_goto (pc := 1293) C (tgt := 1624) dL_law_1293 (by decide) ?_
    exact next _ _ _ _ _ _ _ _ _ hT (INV_60 _ hI)
  · refine r_istore5 (pc := 1245) C dL_law_1245 ?_
    refine r_aload2 (pc := 1247) C dL_law_1247 ?_
    refine r_aload0 (pc := 1248) C dL_law_1248 ?_
    refine r_iload4 (pc := 1249) C dL_law_1249 ?_
    refine r_iconst (pc := 1251) C (v := nI 1) dL_law_1251 (by decide) ?_
    refine r_iadd (pc := 1252) C dL_law_1252 ?_
    rw [show nI iL + nI 1 = nI (iL + 1) from nI_add iL 1]
    refine r_sld (pc := 1253) C hX hbl hbA (k := iL + 1) rfl (by omega) hL dL_law_1253 ?_
    refine r_aload0 (pc := 1254) C dL_law_1254 ?_
    refine r_iload4 (pc := 1255) C dL_law_1255 ?_
    refine r_iconst (pc := 1257) C (v := nI 2) dL_law_1257 (by decide) ?_
    refine r_iadd (pc := 1258) C dL_law_1258 ?_
    rw [show nI iL + nI 2 = nI (iL + 2) from nI_add iL 2]
    refine r_sld (pc := 1259) C hX hbl hbA (k := iL + 2) rfl (by omega) hL dL_law_1259 ?_
    refine kL_160 (pc := 1260) C (c_X6_recut l D _ _ _ hT hI.2.2.1 ((xs (iL + 1))) ((xs (iL + 2)))) (hT.f (by decide)) rfl dL_law_1260 (Nat.le_of_ble_eq_true rfl) ⟨⟨rfl, rfl⟩, by decide, hc.1, hc.2⟩ ?_
    have hcd := (E_recut ((xs (iL + 1))) ((xs (iL + 2))) hI).2 he
    have hne : ¬ (cd2 (0 ≤ (xs (iL + 1)) ∧ (xs (iL + 1)) < nI ng) (1 ≤ (xs (iL + 2)) ∧ (xs (iL + 2)) ≤ σ 88 (xs (iL + 1)).toNatClampNeg - 1)) = 0 := by rw [hcd]; decide
    rintro _ _ ⟨-, hy2⟩
    obtain ⟨rfl, rfl⟩ := hy2 hne
    rw [hcd]
    refine r_istore6 (pc := 1263) C dL_law_1263 ?_
    refine r_aload2 (pc := 1265) C dL_law_1265 ?_
    refine kL_101 (pc := 1266) C (c_X6_thrown l D _ _ _ hT) (hT.f (by decide)) rfl dL_law_1266 (Nat.le_of_ble_eq_true rfl) ⟨⟨rfl, rfl⟩, by decide, hc.1, hc.2⟩ ?_
    rintro _ _ ⟨rfl, rfl⟩
    rw [up_self]
    refine r_iload5 (pc := 1269) C dL_law_1269 ?_
    refine r_icmp_eq (pc := 1271) C (tgt := 1276) dL_law_1271 (by decide) (fun _ => ?_) (fun z => absurd rfl z)
    refine r_iload5 (pc := 1276) C dL_law_1276 ?_
    refine r_if_ne (pc := 1278) C (tgt := 1293) dL_law_1278 (by decide) (fun _ => ?_) (fun z => absurd z (by decide))
    refine r_goto (pc := 1293) C (tgt := 1624) dL_law_1293 (by decide) ?_
    exact next _ _ _ _ _ _ _ _ _ hT (INV_60 _ hI)
set_option maxRecDepth 100000 in
set_option maxHeartbeats 1000000 in
theorem lc_polished (C : CX D A RL code 7 ret tb p s m args meth c) (hNC : NC s) (hX : va_X b Ls xs s s.heap) (hbl : b < s.heap.size) (hbA : ¬ A b) (hfl : l.stackTraces = false) (hT : TG nr ng T) (hI : INV nr ng np nb σ) (hi : iL + 6 ≤ Ls) (hL : Ls ≤ 3072) {x5 x6 : Option Value} (hc : cells + 40 ≤ room_1.cells ∧ slots + 400 ≤ room_1.slots) (next : ∀ (T2 : List Nat) (ad2 : Nat → Nat) (σ2 : Mm) (nr2 ng2 np2 nb2 : Nat) (x5 x6 : Option Value), TG nr2 ng2 T2 → INV nr2 ng2 np2 nb2 σ2 → V D A 7 (T2, ad2, cO D ad2 σ2) p l e room_1 s m args below meth c (cells + 40) (slots + 400) Q 1624 [some (.ref b), some (.ref (ad2 0)), some (.ref (ad2 400)), some (.ref (ad2 399)), some (.int (nI iL)), x5, x6] []) : V D A 7 (T, ad, cO D ad σ) p l e room_1 s m args below meth c cells slots Q 1296 [some (.ref b), some (.ref (ad 0)), some (.ref (ad 400)), some (.ref (ad 399)), some (.int (nI iL)), x5, x6] [] := by
  have hT0 := hT
  refine r_aload1 (pc := 1296) C dL_law_1296 ?_
  refine r_aload0 (pc := 1297) C dL_law_1297 ?_
  refine r_iload4 (pc := 1298) C dL_law_1298 ?_
  refine r_iconst (pc := 1300) C (v := nI 1) dL_law_1300 (by decide) ?_
  refine r_iadd (pc := 1301) C dL_law_1301 ?_
  rw [show nI iL + nI 1 = nI (iL + 1) from nI_add iL 1]
  refine r_sld (pc := 1302) C hX hbl hbA (k := iL + 1) rfl (by omega) hL dL_law_1302 ?_
  refine r_aload0 (pc := 1303) C dL_law_1303 ?_
  refine r_iload4 (pc := 1304) C dL_law_1304 ?_
  refine r_iconst (pc := 1306) C (v := nI 2) dL_law_1306 (by decide) ?_
  refine r_iadd (pc := 1307) C dL_law_1307 ?_
  rw [show nI iL + nI 2 = nI (iL + 2) from nI_add iL 2]
  refine r_sld (pc := 1308) C hX hbl hbA (k := iL + 2) rfl (by omega) hL dL_law_1308 ?_
  refine r_aload3 (pc := 1309) C dL_law_1309 ?_
  refine r_callW (pc := 1310) C hNC (c_L_polished l D T ad σ hT ((xs (iL + 1))) ((xs (iL + 2))) (PP := (fun ov T2 ad2 σ2 => T2 = T ∧ ad2 = ad ∧ ∃ i, i < ng ∧ (xs (iL + 1)) = nI i ∧ (0 ≤ (xs (iL + 2)) ∧ (xs (iL + 2)) ≤ 8) ∧ ov = poC σ i (xs (iL + 2)) ∧ σ2 = σ)) (c_X5_polished l D hfl T ad σ hT hI.1 ((xs (iL + 1))) ((xs (iL + 2)))) (fun ov S0 h => by
      obtain ⟨z0, g1, g2, g3, g4, rfl⟩ := h
      exact ⟨T, ad, _, rfl, hT.f (by decide), rfl, rfl, rfl, z0, g1, g2, g3, g4, rfl⟩) (fun E h => h.elim (fun h => Or.inl h.1) (fun h => Or.inr h.1))) ml_RL_161 st_L_polished ini_L cdW_L_polished hd_RL_161 rfl rfl (Nat.le_of_ble_eq_true rfl) ⟨rfl, rfl⟩ (by decide) hc dL_law_1310 ?_
  intro r S1 hpost
  rcases hpost with ⟨rfl, ov, _, _, σ2, ⟨rfl, rfl, hp⟩, rfl⟩ | ⟨rfl, he, rfl⟩ | ⟨rfl, he, rfl⟩
  · obtain ⟨hML3, hcd, hval, h60, h99, hI2⟩ := S_polished ((xs (iL + 1))) ((xs (iL + 2))) hI hp
    refine r_istore5 (pc := 1313) C dL_law_1313 ?_
    refine r_aload2 (pc := 1315) C dL_law_1315 ?_
    refine r_aload0 (pc := 1316) C dL_law_1316 ?_
    refine r_iload4 (pc := 1317) C dL_law_1317 ?_
    refine r_iconst (pc := 1319) C (v := nI 1) dL_law_1319 (by decide) ?_
    refine r_iadd (pc := 1320) C dL_law_1320 ?_
    rw [show nI iL + nI 1 = nI (iL + 1) from nI_add iL 1]
    refine r_sld (pc := 1321) C hX hbl hbA (k := iL + 1) rfl (by omega) hL dL_law_1321 ?_
    refine r_aload0 (pc := 1322) C dL_law_1322 ?_
    refine r_iload4 (pc := 1323) C dL_law_1323 ?_
    refine r_iconst (pc := 1325) C (v := nI 2) dL_law_1325 (by decide) ?_
    refine r_iadd (pc := 1326) C dL_law_1326 ?_
    rw [show nI iL + nI 2 = nI (iL + 2) from nI_add iL 2]
    refine r_sld (pc := 1327) C hX hbl hbA (k := iL + 2) rfl (by omega) hL dL_law_1327 ?_
    refine kL_163 (pc := 1328) C (c_X6_polished l D _ _ _ hT hML3 ((xs (iL + 1))) ((xs (iL + 2)))) (hT.f (by decide)) rfl dL_law_1328 (Nat.le_of_ble_eq_true rfl) ⟨⟨rfl, rfl⟩, by decide, hc.1, hc.2⟩ ?_
    rintro _ _ ⟨hy1, -⟩
    obtain ⟨rfl, rfl⟩ := hy1 hcd
    refine r_istore6 (pc := 1331) C dL_law_1331 ?_
    refine r_aload2 (pc := 1333) C dL_law_1333 ?_
    refine kL_101 (pc := 1334) C (c_X6_thrown l D _ _ _ hT) (hT.f (by decide)) rfl dL_law_1334 (Nat.le_of_ble_eq_true rfl) ⟨⟨rfl, rfl⟩, by decide, hc.1, hc.2⟩ ?_
    rintro _ _ ⟨rfl, rfl⟩
    rw [h60]
    refine r_iload5 (pc := 1337) C dL_law_1337 ?_
    refine r_icmp_eq (pc := 1339) C (tgt := 1344) dL_law_1339 (by decide) (fun _ => ?_) (fun z => absurd rfl z)
    refine r_iload5 (pc := 1344) C dL_law_1344 ?_
    refine r_if_ne (pc := 1346) C (tgt := 1361) dL_law_1346 (by decide) (fun z => absurd rfl z) (fun _ => ?_)
    refine r_aload3 (pc := 1349) C dL_law_1349 ?_
    refine r_iconst (pc := 1350) C (v := nI 0) dL_law_1350 (by decide) ?_
    refine r_lald (pc := 1351) C (t := 399) (k := 0) (hT.f (by decide)) rfl rfl (by decide) (by decide) dL_law_1351 ?_
    rw [h99.trans hval]
    refine r_iload6 (pc := 1352) C dL_law_1352 ?_
    refine r_i2l (pc := 1354) C dL_law_1354 ?_
    refine r_lcmp (pc := 1355) C dL_law_1355 ?_
    rw [lg_self]
    refine r_if_eq (pc := 1356) C (tgt := 1361) dL_law_1356 (by decide) (fun _ => ?_) (fun z => absurd rfl z)
    refine r_goto (pc := 1361) C (tgt := 1624) dL_law_1361 (by decide) ?_
    exact next _ _ _ _ _ _ _ _ _ hT hI2
  · refine r_istore5 (pc := 1313) C dL_law_1313 ?_
    refine r_aload2 (pc := 1315) C dL_law_1315 ?_
    refine r_aload0 (pc := 1316) C dL_law_1316 ?_
    refine r_iload4 (pc := 1317) C dL_law_1317 ?_
    refine r_iconst (pc := 1319) C (v := nI 1) dL_law_1319 (by decide) ?_
    refine r_iadd (pc := 1320) C dL_law_1320 ?_
    rw [show nI iL + nI 1 = nI (iL + 1) from nI_add iL 1]
    refine r_sld (pc := 1321) C hX hbl hbA (k := iL + 1) rfl (by omega) hL dL_law_1321 ?_
    refine r_aload0 (pc := 1322) C dL_law_1322 ?_
    refine r_iload4 (pc := 1323) C dL_law_1323 ?_
    refine r_iconst (pc := 1325) C (v := nI 2) dL_law_1325 (by decide) ?_
    refine r_iadd (pc := 1326) C dL_law_1326 ?_
    rw [show nI iL + nI 2 = nI (iL + 2) from nI_add iL 2]
    refine r_sld (pc := 1327) C hX hbl hbA (k := iL + 2) rfl (by omega) hL dL_law_1327 ?_
    refine kL_163 (pc := 1328) C (c_X6_polished l D _ _ _ hT hI.2.2.1 ((xs (iL + 1))) ((xs (iL + 2)))) (hT.f (by decide)) rfl dL_law_1328 (Nat.le_of_ble_eq_true rfl) ⟨⟨rfl, rfl⟩, by decide, hc.1, hc.2⟩ ?_
    have hcd := (E_polished ((xs (iL + 1))) ((xs (iL + 2))) hI).1 he
    have hne : ¬ (cd2 (0 ≤ (xs (iL + 1)) ∧ (xs (iL + 1)) < nI ng) (0 ≤ (xs (iL + 2)) ∧ (xs (iL + 2)) ≤ 8)) = 0 := by rw [hcd]; decide
    rintro _ _ ⟨-, hy2⟩
    obtain ⟨rfl, rfl⟩ := hy2 hne
    rw [hcd]
    refine r_istore6 (pc := 1331) C dL_law_1331 ?_
    refine r_aload2 (pc := 1333) C dL_law_1333 ?_
    refine kL_101 (pc := 1334) C (c_X6_thrown l D _ _ _ hT) (hT.f (by decide)) rfl dL_law_1334 (Nat.le_of_ble_eq_true rfl) ⟨⟨rfl, rfl⟩, by decide, hc.1, hc.2⟩ ?_
    rintro _ _ ⟨rfl, rfl⟩
    rw [up_self]
    refine r_iload5 (pc := 1337) C dL_law_1337 ?_
    refine r_icmp_eq (pc := 1339) C (tgt := 1344) dL_law_1339 (by decide) (fun _ => ?_) (fun z => absurd rfl z)
    refine r_iload5 (pc := 1344) C dL_law_1344 ?_
    refine r_if_ne (pc := 1346) C (tgt := 1361) dL_law_1346 (by decide) (fun _ => ?_) (fun z => absurd z (by decide))
    refine r_goto (pc := 1361) C (tgt := 1624) dL_law_1361 (by decide) ?_
    exact next _ _ _ _ _ _ _ _ _ hT (INV_60 _ hI)
  · refine r_istore5 (pc := 1313) C dL_law_1313 ?_
    refine r_aload2 (pc := 1315) C dL_law_1315 ?_
    refine r_aload0 (pc := 1316) C dL_law_1316 ?_
    refine r_iload4 (pc := 1317) C dL_law_1317 ?_
    refine r_iconst (pc := 1319) C (v := nI 1) dL_law_1319 (by decide) ?_
    refine r_iadd (pc := 1320) C dL_law_1320 ?_
    rw [show nI iL + nI 1 = nI (iL + 1) from nI_add iL 1]
    refine r_sld (pc := 1321) C hX hbl hbA (k := iL + 1) rfl (by omega) hL dL_law_1321 ?_
    refine r_aload0 (pc := 1322) C dL_law_1322 ?_
    refine r_iload4 (pc := 1323) C dL_law_1323 ?_
    refine r_iconst (pc := 1325) C (v := nI 2) dL_law_1325 (by decide) ?_
    refine r_iadd (pc := 1326) C dL_law_1326 ?_
    rw [show nI iL + nI 2 = nI (iL + 2) from nI_add iL 2]
    refine r_sld (pc := 1327) C hX hbl hbA (k := iL + 2) rfl (by omega) hL dL_law_1327 ?_
    refine kL_163 (pc := 1328) C (c_X6_polished l D _ _ _ hT hI.2.2.1 ((xs (iL + 1))) ((xs (iL + 2)))) (hT.f (by decide)) rfl dL_law_1328 (Nat.le_of_ble_eq_true rfl) ⟨⟨rfl, rfl⟩, by decide, hc.1, hc.2⟩ ?_
    have hcd := (E_polished ((xs (iL + 1))) ((xs (iL + 2))) hI).2 he
    have hne : ¬ (cd2 (0 ≤ (xs (iL + 1)) ∧ (xs (iL + 1)) < nI ng) (0 ≤ (xs (iL + 2)) ∧ (xs (iL + 2)) ≤ 8)) = 0 := by rw [hcd]; decide
    rintro _ _ ⟨-, hy2⟩
    obtain ⟨rfl, rfl⟩ := hy2 hne
    rw [hcd]
    refine r_istore6 (pc := 1331) C dL_law_1331 ?_
    refine r_aload2 (pc := 1333) C dL_law_1333 ?_
    refine kL_101 (pc := 1334) C (c_X6_thrown l D _ _ _ hT) (hT.f (by decide)) rfl dL_law_1334 (Nat.le_of_ble_eq_true rfl) ⟨⟨rfl, rfl⟩, by decide, hc.1, hc.2⟩ ?_
    rintro _ _ ⟨rfl, rfl⟩
    rw [up_self]
    refine r_iload5 (pc := 1337) C dL_law_1337 ?_
    refine r_icmp_eq (pc := 1339) C (tgt := 1344) dL_law_1339 (by decide) (fun _ => ?_) (fun z => absurd rfl z)
    refine r_iload5 (pc := 1344) C dL_law_1344 ?_
    refine r_if_ne (pc := 1346) C (tgt := 1361) dL_law_1346 (by decide) (fun _ => ?_) (fun z => absurd z (by decide))
    refine r_goto (pc := 1361) C (tgt := 1624) dL_law_1361 (by decide) ?_
    exact next _ _ _ _ _ _ _ _ _ hT (INV_60 _ hI)
set_option maxRecDepth 100000 in
set_option maxHeartbeats 1000000 in
theorem lc_scale (C : CX D A RL code 7 ret tb p s m args meth c) (hNC : NC s) (hX : va_X b Ls xs s s.heap) (hbl : b < s.heap.size) (hbA : ¬ A b) (hfl : l.stackTraces = false) (hT : TG nr ng T) (hI : INV nr ng np nb σ) (hi : iL + 6 ≤ Ls) (hL : Ls ≤ 3072) {x5 x6 : Option Value} (hc : cells + 40 ≤ room_1.cells ∧ slots + 400 ≤ room_1.slots) (next : ∀ (T2 : List Nat) (ad2 : Nat → Nat) (σ2 : Mm) (nr2 ng2 np2 nb2 : Nat) (x5 x6 : Option Value), TG nr2 ng2 T2 → INV nr2 ng2 np2 nb2 σ2 → V D A 7 (T2, ad2, cO D ad2 σ2) p l e room_1 s m args below meth c (cells + 40) (slots + 400) Q 1624 [some (.ref b), some (.ref (ad2 0)), some (.ref (ad2 400)), some (.ref (ad2 399)), some (.int (nI iL)), x5, x6] []) : V D A 7 (T, ad, cO D ad σ) p l e room_1 s m args below meth c cells slots Q 1364 [some (.ref b), some (.ref (ad 0)), some (.ref (ad 400)), some (.ref (ad 399)), some (.int (nI iL)), x5, x6] [] := by
  have hT0 := hT
  refine r_aload1 (pc := 1364) C dL_law_1364 ?_
  refine r_aload0 (pc := 1365) C dL_law_1365 ?_
  refine r_iload4 (pc := 1366) C dL_law_1366 ?_
  refine r_iconst (pc := 1368) C (v := nI 1) dL_law_1368 (by decide) ?_
  refine r_iadd (pc := 1369) C dL_law_1369 ?_
  rw [show nI iL + nI 1 = nI (iL + 1) from nI_add iL 1]
  refine r_sld (pc := 1370) C hX hbl hbA (k := iL + 1) rfl (by omega) hL dL_law_1370 ?_
  refine r_aload0 (pc := 1371) C dL_law_1371 ?_
  refine r_iload4 (pc := 1372) C dL_law_1372 ?_
  refine r_iconst (pc := 1374) C (v := nI 2) dL_law_1374 (by decide) ?_
  refine r_iadd (pc := 1375) C dL_law_1375 ?_
  rw [show nI iL + nI 2 = nI (iL + 2) from nI_add iL 2]
  refine r_sld (pc := 1376) C hX hbl hbA (k := iL + 2) rfl (by omega) hL dL_law_1376 ?_
  refine r_aload3 (pc := 1377) C dL_law_1377 ?_
  refine r_callW (pc := 1378) C hNC (c_L_scale l D T ad σ hT ((xs (iL + 1))) ((xs (iL + 2))) (PP := (fun ov T2 ad2 σ2 => T2 = T ∧ ad2 = ad ∧ ∃ j, j < 3 ∧ (xs (iL + 1)) = nI j ∧ ((-1) ≤ (xs (iL + 2)) ∧ (xs (iL + 2)) ≤ 1) ∧ ov = σ 12 j ∧ σ2 = (up σ 12 j (xs (iL + 2))))) (c_X5_scale l D hfl T ad σ hT hI.1 ((xs (iL + 1))) ((xs (iL + 2)))) (fun ov S0 h => by
      obtain ⟨z0, g1, g2, g3, g4, rfl⟩ := h
      exact ⟨T, ad, _, rfl, hT.f (by decide), rfl, rfl, rfl, z0, g1, g2, g3, g4, rfl⟩) (fun E h => h.elim (fun h => Or.inl h.1) (fun h => Or.inr h.1))) ml_RL_164 st_L_scale ini_L cdW_L_scale hd_RL_164 rfl rfl (Nat.le_of_ble_eq_true rfl) ⟨rfl, rfl⟩ (by decide) hc dL_law_1378 ?_
  intro r S1 hpost
  rcases hpost with ⟨rfl, ov, _, _, σ2, ⟨rfl, rfl, hp⟩, rfl⟩ | ⟨rfl, he, rfl⟩ | ⟨rfl, he, rfl⟩
  · obtain ⟨hML3, hcd, hval, h60, h99, hI2⟩ := S_scale ((xs (iL + 1))) ((xs (iL + 2))) hI hp
    refine r_istore5 (pc := 1381) C dL_law_1381 ?_
    refine r_aload2 (pc := 1383) C dL_law_1383 ?_
    refine r_aload0 (pc := 1384) C dL_law_1384 ?_
    refine r_iload4 (pc := 1385) C dL_law_1385 ?_
    refine r_iconst (pc := 1387) C (v := nI 1) dL_law_1387 (by decide) ?_
    refine r_iadd (pc := 1388) C dL_law_1388 ?_
    rw [show nI iL + nI 1 = nI (iL + 1) from nI_add iL 1]
    refine r_sld (pc := 1389) C hX hbl hbA (k := iL + 1) rfl (by omega) hL dL_law_1389 ?_
    refine r_aload0 (pc := 1390) C dL_law_1390 ?_
    refine r_iload4 (pc := 1391) C dL_law_1391 ?_
    refine r_iconst (pc := 1393) C (v := nI 2) dL_law_1393 (by decide) ?_
    refine r_iadd (pc := 1394) C dL_law_1394 ?_
    rw [show nI iL + nI 2 = nI (iL + 2) from nI_add iL 2]
    refine r_sld (pc := 1395) C hX hbl hbA (k := iL + 2) rfl (by omega) hL dL_law_1395 ?_
    refine kL_166 (pc := 1396) C (c_X6_scale l D _ _ _ hT hML3 ((xs (iL + 1))) ((xs (iL + 2)))) (hT.f (by decide)) rfl dL_law_1396 (Nat.le_of_ble_eq_true rfl) ⟨⟨rfl, rfl⟩, by decide, hc.1, hc.2⟩ ?_
    rintro _ _ ⟨hy1, -⟩
    obtain ⟨rfl, rfl⟩ := hy1 hcd
    refine r_istore6 (pc := 1399) C dL_law_1399 ?_
    refine r_aload2 (pc := 1401) C dL_law_1401 ?_
    refine kL_101 (pc := 1402) C (c_X6_thrown l D _ _ _ hT) (hT.f (by decide)) rfl dL_law_1402 (Nat.le_of_ble_eq_true rfl) ⟨⟨rfl, rfl⟩, by decide, hc.1, hc.2⟩ ?_
    rintro _ _ ⟨rfl, rfl⟩
    rw [h60]
    refine r_iload5 (pc := 1405) C dL_law_1405 ?_
    refine r_icmp_eq (pc := 1407) C (tgt := 1412) dL_law_1407 (by decide) (fun _ => ?_) (fun z => absurd rfl z)
    refine r_iload5 (pc := 1412) C dL_law_1412 ?_
    refine r_if_ne (pc := 1414) C (tgt := 1429) dL_law_1414 (by decide) (fun z => absurd rfl z) (fun _ => ?_)
    refine r_aload3 (pc := 1417) C dL_law_1417 ?_
    refine r_iconst (pc := 1418) C (v := nI 0) dL_law_1418 (by decide) ?_
    refine r_lald (pc := 1419) C (t := 399) (k := 0) (hT.f (by decide)) rfl rfl (by decide) (by decide) dL_law_1419 ?_
    rw [h99.trans hval]
    refine r_iload6 (pc := 1420) C dL_law_1420 ?_
    refine r_i2l (pc := 1422) C dL_law_1422 ?_
    refine r_lcmp (pc := 1423) C dL_law_1423 ?_
    rw [lg_self]
    refine r_if_eq (pc := 1424) C (tgt := 1429) dL_law_1424 (by decide) (fun _ => ?_) (fun z => absurd rfl z)
    refine r_goto (pc := 1429) C (tgt := 1624) dL_law_1429 (by decide) ?_
    exact next _ _ _ _ _ _ _ _ _ hT hI2
  · refine r_istore5 (pc := 1381) C dL_law_1381 ?_
    refine r_aload2 (pc := 1383) C dL_law_1383 ?_
    refine r_aload0 (pc := 1384) C dL_law_1384 ?_
    refine r_iload4 (pc := 1385) C dL_law_1385 ?_
    refine r_iconst (pc := 1387) C (v := nI 1) dL_law_1387 (by decide) ?_
    refine r_iadd (pc := 1388) C dL_law_1388 ?_
    rw [show nI iL + nI 1 = nI (iL + 1) from nI_add iL 1]
    refine r_sld (pc := 1389) C hX hbl hbA (k := iL + 1) rfl (by omega) hL dL_law_1389 ?_
    refine r_aload0 (pc := 1390) C dL_law_1390 ?_
    refine r_iload4 (pc := 1391) C dL_law_1391 ?_
    refine r_iconst (pc := 1393) C (v := nI 2) dL_law_1393 (by decide) ?_
    refine r_iadd (pc := 1394) C dL_law_1394 ?_
    rw [show nI iL + nI 2 = nI (iL + 2) from nI_add iL 2]
    refine r_sld (pc := 1395) C hX hbl hbA (k := iL + 2) rfl (by omega) hL dL_law_1395 ?_
    refine kL_166 (pc := 1396) C (c_X6_scale l D _ _ _ hT hI.2.2.1 ((xs (iL + 1))) ((xs (iL + 2)))) (hT.f (by decide)) rfl dL_law_1396 (Nat.le_of_ble_eq_true rfl) ⟨⟨rfl, rfl⟩, by decide, hc.1, hc.2⟩ ?_
    have hcd := (E_scale ((xs (iL + 1))) ((xs (iL + 2))) hI).1 he
    have hne : ¬ (cd2 (0 ≤ (xs (iL + 1)) ∧ (xs (iL + 1)) ≤ 2) ((-1) ≤ (xs (iL + 2)) ∧ (xs (iL + 2)) ≤ 1)) = 0 := by rw [hcd]; decide
    rintro _ _ ⟨-, hy2⟩
    obtain ⟨rfl, rfl⟩ := hy2 hne
    rw [hcd]
    refine r_istore6 (pc := 1399) C dL_law_1399 ?_
    refine r_aload2 (pc := 1401) C dL_law_1401 ?_
    refine kL_101 (pc := 1402) C (c_X6_thrown l D _ _ _ hT) (hT.f (by decide)) rfl dL_law_1402 (Nat.le_of_ble_eq_true rfl) ⟨⟨rfl, rfl⟩, by decide, hc.1, hc.2⟩ ?_
    rintro _ _ ⟨rfl, rfl⟩
    rw [up_self]
    refine r_iload5 (pc := 1405) C dL_law_1405 ?_
    refine r_icmp_eq (pc := 1407) C (tgt := 1412) dL_law_1407 (by decide) (fun _ => ?_) (fun z => absurd rfl z)
    refine r_iload5 (pc := 1412) C dL_law_1412 ?_
    refine r_if_ne (pc := 1414) C (tgt := 1429) dL_law_1414 (by decide) (fun _ => ?_) (fun z => absurd z (by decide))
    refine r_goto (pc := 1429) C (tgt := 1624) dL_law_1429 (by decide) ?_
    exact next _ _ _ _ _ _ _ _ _ hT (INV_60 _ hI)
  · refine r_istore5 (pc := 1381) C dL_law_1381 ?_
    refine r_aload2 (pc := 1383) C dL_law_1383 ?_
    refine r_aload0 (pc := 1384) C dL_law_1384 ?_
    refine r_iload4 (pc := 1385) C dL_law_1385 ?_
    refine r_iconst (pc := 1387) C (v := nI 1) dL_law_1387 (by decide) ?_
    refine r_iadd (pc := 1388) C dL_law_1388 ?_
    rw [show nI iL + nI 1 = nI (iL + 1) from nI_add iL 1]
    refine r_sld (pc := 1389) C hX hbl hbA (k := iL + 1) rfl (by omega) hL dL_law_1389 ?_
    refine r_aload0 (pc := 1390) C dL_law_1390 ?_
    refine r_iload4 (pc := 1391) C dL_law_1391 ?_
    refine r_iconst (pc := 1393) C (v := nI 2) dL_law_1393 (by decide) ?_
    refine r_iadd (pc := 1394) C dL_law_1394 ?_
    rw [show nI iL + nI 2 = nI (iL + 2) from nI_add iL 2]
    refine r_sld (pc := 1395) C hX hbl hbA (k := iL + 2) rfl (by omega) hL dL_law_1395 ?_
    refine kL_166 (pc := 1396) C (c_X6_scale l D _ _ _ hT hI.2.2.1 ((xs (iL + 1))) ((xs (iL + 2)))) (hT.f (by decide)) rfl dL_law_1396 (Nat.le_of_ble_eq_true rfl) ⟨⟨rfl, rfl⟩, by decide, hc.1, hc.2⟩ ?_
    have hcd := (E_scale ((xs (iL + 1))) ((xs (iL + 2))) hI).2 he
    have hne : ¬ (cd2 (0 ≤ (xs (iL + 1)) ∧ (xs (iL + 1)) ≤ 2) ((-1) ≤ (xs (iL + 2)) ∧ (xs (iL + 2)) ≤ 1)) = 0 := by rw [hcd]; decide
    rintro _ _ ⟨-, hy2⟩
    obtain ⟨rfl, rfl⟩ := hy2 hne
    rw [hcd]
    refine r_istore6 (pc := 1399) C dL_law_1399 ?_
    refine r_aload2 (pc := 1401) C dL_law_1401 ?_
    refine kL_101 (pc := 1402) C (c_X6_thrown l D _ _ _ hT) (hT.f (by decide)) rfl dL_law_1402 (Nat.le_of_ble_eq_true rfl) ⟨⟨rfl, rfl⟩, by decide, hc.1, hc.2⟩ ?_
    rintro _ _ ⟨rfl, rfl⟩
    rw [up_self]
    refine r_iload5 (pc := 1405) C dL_law_1405 ?_
    refine r_icmp_eq (pc := 1407) C (tgt := 1412) dL_law_1407 (by decide) (fun _ => ?_) (fun z => absurd rfl z)
    refine r_iload5 (pc := 1412) C dL_law_1412 ?_
    refine r_if_ne (pc := 1414) C (tgt := 1429) dL_law_1414 (by decide) (fun _ => ?_) (fun z => absurd z (by decide))
    refine r_goto (pc := 1429) C (tgt := 1624) dL_law_1429 (by decide) ?_
    exact next _ _ _ _ _ _ _ _ _ hT (INV_60 _ hI)
set_option maxRecDepth 100000 in
set_option maxHeartbeats 1000000 in
theorem lc_look (C : CX D A RL code 7 ret tb p s m args meth c) (hNC : NC s) (hX : va_X b Ls xs s s.heap) (hbl : b < s.heap.size) (hbA : ¬ A b) (hfl : l.stackTraces = false) (hT : TG nr ng T) (hI : INV nr ng np nb σ) (hi : iL + 6 ≤ Ls) (hL : Ls ≤ 3072) {x5 x6 : Option Value} (hc : cells + 40 ≤ room_1.cells ∧ slots + 400 ≤ room_1.slots) (next : ∀ (T2 : List Nat) (ad2 : Nat → Nat) (σ2 : Mm) (nr2 ng2 np2 nb2 : Nat) (x5 x6 : Option Value), TG nr2 ng2 T2 → INV nr2 ng2 np2 nb2 σ2 → V D A 7 (T2, ad2, cO D ad2 σ2) p l e room_1 s m args below meth c (cells + 40) (slots + 400) Q 1624 [some (.ref b), some (.ref (ad2 0)), some (.ref (ad2 400)), some (.ref (ad2 399)), some (.int (nI iL)), x5, x6] []) : V D A 7 (T, ad, cO D ad σ) p l e room_1 s m args below meth c cells slots Q 1432 [some (.ref b), some (.ref (ad 0)), some (.ref (ad 400)), some (.ref (ad 399)), some (.int (nI iL)), x5, x6] [] := by
  have hT0 := hT
  refine r_aload1 (pc := 1432) C dL_law_1432 ?_
  refine r_aload0 (pc := 1433) C dL_law_1433 ?_
  refine r_iload4 (pc := 1434) C dL_law_1434 ?_
  refine r_iconst (pc := 1436) C (v := nI 1) dL_law_1436 (by decide) ?_
  refine r_iadd (pc := 1437) C dL_law_1437 ?_
  rw [show nI iL + nI 1 = nI (iL + 1) from nI_add iL 1]
  refine r_sld (pc := 1438) C hX hbl hbA (k := iL + 1) rfl (by omega) hL dL_law_1438 ?_
  refine r_aload0 (pc := 1439) C dL_law_1439 ?_
  refine r_iload4 (pc := 1440) C dL_law_1440 ?_
  refine r_iconst (pc := 1442) C (v := nI 2) dL_law_1442 (by decide) ?_
  refine r_iadd (pc := 1443) C dL_law_1443 ?_
  rw [show nI iL + nI 2 = nI (iL + 2) from nI_add iL 2]
  refine r_sld (pc := 1444) C hX hbl hbA (k := iL + 2) rfl (by omega) hL dL_law_1444 ?_
  refine r_aload3 (pc := 1445) C dL_law_1445 ?_
  refine r_callW (pc := 1446) C hNC (c_L_look l D T ad σ hT ((xs (iL + 1))) ((xs (iL + 2))) (PP := (fun ov T2 ad2 σ2 => T2 = T ∧ ad2 = ad ∧ ∃ j i, j < 3 ∧ i < ng ∧ (xs (iL + 1)) = nI j ∧ (xs (iL + 2)) = nI i ∧ ((σ 50 i >>> (nI j &&& 31)) &&& 1 = 0 ∧ gradeC σ i = -1) ∧ ov = (mxI 0 (mnI 9 (σ 41 i + σ 12 j))) ∧ σ2 = (up (up (up (up (up σ 50 i (σ 50 i ||| ((1 : Int32) <<< (nI j &&& 31)))) 51 i (σ 51 i + 1)) 52 i (iF (σ 51 i = 0) (mxI 0 (mnI 9 (σ 41 i + σ 12 j))) (σ 52 i))) 53 i (iF (σ 51 i = 1) (mxI 0 (mnI 9 (σ 41 i + σ 12 j))) (σ 53 i))) 54 i (iF (¬ σ 51 i = 0 ∧ ¬ σ 51 i = 1) (mxI 0 (mnI 9 (σ 41 i + σ 12 j))) (σ 54 i))))) (c_X5_look l D hfl T ad σ hT hI.1 ((xs (iL + 1))) ((xs (iL + 2)))) (fun ov S0 h => by
      obtain ⟨z0, z1, g1, g2, g3, g4, g5, g6, rfl⟩ := h
      exact ⟨T, ad, _, rfl, hT.f (by decide), rfl, rfl, rfl, z0, z1, g1, g2, g3, g4, g5, g6, rfl⟩) (fun E h => h.elim (fun h => Or.inl h.1) (fun h => Or.inr h.1))) ml_RL_167 st_L_look ini_L cdW_L_look hd_RL_167 rfl rfl (Nat.le_of_ble_eq_true rfl) ⟨rfl, rfl⟩ (by decide) hc dL_law_1446 ?_
  intro r S1 hpost
  rcases hpost with ⟨rfl, ov, _, _, σ2, ⟨rfl, rfl, hp⟩, rfl⟩ | ⟨rfl, he, rfl⟩ | ⟨rfl, he, rfl⟩
  · obtain ⟨⟨hML3, hlk3⟩, hcd, hval, h60, h99, hI2⟩ := S_look ((xs (iL + 1))) ((xs (iL + 2))) hI hp
    refine r_istore5 (pc := 1449) C dL_law_1449 ?_
    refine r_aload2 (pc := 1451) C dL_law_1451 ?_
    refine r_aload0 (pc := 1452) C dL_law_1452 ?_
    refine r_iload4 (pc := 1453) C dL_law_1453 ?_
    refine r_iconst (pc := 1455) C (v := nI 1) dL_law_1455 (by decide) ?_
    refine r_iadd (pc := 1456) C dL_law_1456 ?_
    rw [show nI iL + nI 1 = nI (iL + 1) from nI_add iL 1]
    refine r_sld (pc := 1457) C hX hbl hbA (k := iL + 1) rfl (by omega) hL dL_law_1457 ?_
    refine r_aload0 (pc := 1458) C dL_law_1458 ?_
    refine r_iload4 (pc := 1459) C dL_law_1459 ?_
    refine r_iconst (pc := 1461) C (v := nI 2) dL_law_1461 (by decide) ?_
    refine r_iadd (pc := 1462) C dL_law_1462 ?_
    rw [show nI iL + nI 2 = nI (iL + 2) from nI_add iL 2]
    refine r_sld (pc := 1463) C hX hbl hbA (k := iL + 2) rfl (by omega) hL dL_law_1463 ?_
    refine kL_169 (pc := 1464) C (c_X6_look l D _ _ _ hT hML3 hlk3 ((xs (iL + 1))) ((xs (iL + 2)))) (hT.f (by decide)) rfl dL_law_1464 (Nat.le_of_ble_eq_true rfl) ⟨⟨rfl, rfl⟩, by decide, hc.1, hc.2⟩ ?_
    rintro _ _ ⟨hy1, -⟩
    obtain ⟨rfl, rfl⟩ := hy1 hcd
    refine r_istore6 (pc := 1467) C dL_law_1467 ?_
    refine r_aload2 (pc := 1469) C dL_law_1469 ?_
    refine kL_101 (pc := 1470) C (c_X6_thrown l D _ _ _ hT) (hT.f (by decide)) rfl dL_law_1470 (Nat.le_of_ble_eq_true rfl) ⟨⟨rfl, rfl⟩, by decide, hc.1, hc.2⟩ ?_
    rintro _ _ ⟨rfl, rfl⟩
    rw [h60]
    refine r_iload5 (pc := 1473) C dL_law_1473 ?_
    refine r_icmp_eq (pc := 1475) C (tgt := 1480) dL_law_1475 (by decide) (fun _ => ?_) (fun z => absurd rfl z)
    refine r_iload5 (pc := 1480) C dL_law_1480 ?_
    refine r_if_ne (pc := 1482) C (tgt := 1497) dL_law_1482 (by decide) (fun z => absurd rfl z) (fun _ => ?_)
    refine r_aload3 (pc := 1485) C dL_law_1485 ?_
    refine r_iconst (pc := 1486) C (v := nI 0) dL_law_1486 (by decide) ?_
    refine r_lald (pc := 1487) C (t := 399) (k := 0) (hT.f (by decide)) rfl rfl (by decide) (by decide) dL_law_1487 ?_
    rw [h99.trans hval]
    refine r_iload6 (pc := 1488) C dL_law_1488 ?_
    refine r_i2l (pc := 1490) C dL_law_1490 ?_
    refine r_lcmp (pc := 1491) C dL_law_1491 ?_
    rw [lg_self]
    refine r_if_eq (pc := 1492) C (tgt := 1497) dL_law_1492 (by decide) (fun _ => ?_) (fun z => absurd rfl z)
    refine r_goto (pc := 1497) C (tgt := 1624) dL_law_1497 (by decide) ?_
    exact next _ _ _ _ _ _ _ _ _ hT hI2
  · refine r_istore5 (pc := 1449) C dL_law_1449 ?_
    refine r_aload2 (pc := 1451) C dL_law_1451 ?_
    refine r_aload0 (pc := 1452) C dL_law_1452 ?_
    refine r_iload4 (pc := 1453) C dL_law_1453 ?_
    refine r_iconst (pc := 1455) C (v := nI 1) dL_law_1455 (by decide) ?_
    refine r_iadd (pc := 1456) C dL_law_1456 ?_
    rw [show nI iL + nI 1 = nI (iL + 1) from nI_add iL 1]
    refine r_sld (pc := 1457) C hX hbl hbA (k := iL + 1) rfl (by omega) hL dL_law_1457 ?_
    refine r_aload0 (pc := 1458) C dL_law_1458 ?_
    refine r_iload4 (pc := 1459) C dL_law_1459 ?_
    refine r_iconst (pc := 1461) C (v := nI 2) dL_law_1461 (by decide) ?_
    refine r_iadd (pc := 1462) C dL_law_1462 ?_
    rw [show nI iL + nI 2 = nI (iL + 2) from nI_add iL 2]
    refine r_sld (pc := 1463) C hX hbl hbA (k := iL + 2) rfl (by omega) hL dL_law_1463 ?_
    refine kL_169 (pc := 1464) C (c_X6_look l D _ _ _ hT hI.2.2.1 hI.2.2.2.2.1.2.2 ((xs (iL + 1))) ((xs (iL + 2)))) (hT.f (by decide)) rfl dL_law_1464 (Nat.le_of_ble_eq_true rfl) ⟨⟨rfl, rfl⟩, by decide, hc.1, hc.2⟩ ?_
    have hcd := (E_look ((xs (iL + 1))) ((xs (iL + 2))) hI).1 he
    have hne : ¬ (cd2 ((0 ≤ (xs (iL + 1)) ∧ (xs (iL + 1)) ≤ 2) ∧ (0 ≤ (xs (iL + 2)) ∧ (xs (iL + 2)) < nI ng)) ((σ 95 (xs (iL + 2)).toNatClampNeg >>> ((xs (iL + 1)) &&& 31)) &&& 1 = 0 ∧ gradeM σ (xs (iL + 2)).toNatClampNeg = -1)) = 0 := by rw [hcd]; decide
    rintro _ _ ⟨-, hy2⟩
    obtain ⟨rfl, rfl⟩ := hy2 hne
    rw [hcd]
    refine r_istore6 (pc := 1467) C dL_law_1467 ?_
    refine r_aload2 (pc := 1469) C dL_law_1469 ?_
    refine kL_101 (pc := 1470) C (c_X6_thrown l D _ _ _ hT) (hT.f (by decide)) rfl dL_law_1470 (Nat.le_of_ble_eq_true rfl) ⟨⟨rfl, rfl⟩, by decide, hc.1, hc.2⟩ ?_
    rintro _ _ ⟨rfl, rfl⟩
    rw [up_self]
    refine r_iload5 (pc := 1473) C dL_law_1473 ?_
    refine r_icmp_eq (pc := 1475) C (tgt := 1480) dL_law_1475 (by decide) (fun _ => ?_) (fun z => absurd rfl z)
    refine r_iload5 (pc := 1480) C dL_law_1480 ?_
    refine r_if_ne (pc := 1482) C (tgt := 1497) dL_law_1482 (by decide) (fun _ => ?_) (fun z => absurd z (by decide))
    refine r_goto (pc := 1497) C (tgt := 1624) dL_law_1497 (by decide) ?_
    exact next _ _ _ _ _ _ _ _ _ hT (INV_60 _ hI)
  · refine r_istore5 (pc := 1449) C dL_law_1449 ?_
    refine r_aload2 (pc := 1451) C dL_law_1451 ?_
    refine r_aload0 (pc := 1452) C dL_law_1452 ?_
    refine r_iload4 (pc := 1453) C dL_law_1453 ?_
    refine r_iconst (pc := 1455) C (v := nI 1) dL_law_1455 (by decide) ?_
    refine r_iadd (pc := 1456) C dL_law_1456 ?_
    rw [show nI iL + nI 1 = nI (iL + 1) from nI_add iL 1]
    refine r_sld (pc := 1457) C hX hbl hbA (k := iL + 1) rfl (by omega) hL dL_law_1457 ?_
    refine r_aload0 (pc := 1458) C dL_law_1458 ?_
    refine r_iload4 (pc := 1459) C dL_law_1459 ?_
    refine r_iconst (pc := 1461) C (v := nI 2) dL_law_1461 (by decide) ?_
    refine r_iadd (pc := 1462) C dL_law_1462 ?_
    rw [show nI iL + nI 2 = nI (iL + 2) from nI_add iL 2]
    refine r_sld (pc := 1463) C hX hbl hbA (k := iL + 2) rfl (by omega) hL dL_law_1463 ?_
    refine kL_169 (pc := 1464) C (c_X6_look l D _ _ _ hT hI.2.2.1 hI.2.2.2.2.1.2.2 ((xs (iL + 1))) ((xs (iL + 2)))) (hT.f (by decide)) rfl dL_law_1464 (Nat.le_of_ble_eq_true rfl) ⟨⟨rfl, rfl⟩, by decide, hc.1, hc.2⟩ ?_
    have hcd := (E_look ((xs (iL + 1))) ((xs (iL + 2))) hI).2 he
    have hne : ¬ (cd2 ((0 ≤ (xs (iL + 1)) ∧ (xs (iL + 1)) ≤ 2) ∧ (0 ≤ (xs (iL + 2)) ∧ (xs (iL + 2)) < nI ng)) ((σ 95 (xs (iL + 2)).toNatClampNeg >>> ((xs (iL + 1)) &&& 31)) &&& 1 = 0 ∧ gradeM σ (xs (iL + 2)).toNatClampNeg = -1)) = 0 := by rw [hcd]; decide
    rintro _ _ ⟨-, hy2⟩
    obtain ⟨rfl, rfl⟩ := hy2 hne
    rw [hcd]
    refine r_istore6 (pc := 1467) C dL_law_1467 ?_
    refine r_aload2 (pc := 1469) C dL_law_1469 ?_
    refine kL_101 (pc := 1470) C (c_X6_thrown l D _ _ _ hT) (hT.f (by decide)) rfl dL_law_1470 (Nat.le_of_ble_eq_true rfl) ⟨⟨rfl, rfl⟩, by decide, hc.1, hc.2⟩ ?_
    rintro _ _ ⟨rfl, rfl⟩
    rw [up_self]
    refine r_iload5 (pc := 1473) C dL_law_1473 ?_
    refine r_icmp_eq (pc := 1475) C (tgt := 1480) dL_law_1475 (by decide) (fun _ => ?_) (fun z => absurd rfl z)
    refine r_iload5 (pc := 1480) C dL_law_1480 ?_
    refine r_if_ne (pc := 1482) C (tgt := 1497) dL_law_1482 (by decide) (fun _ => ?_) (fun z => absurd z (by decide))
    refine r_goto (pc := 1497) C (tgt := 1624) dL_law_1497 (by decide) ?_
    exact next _ _ _ _ _ _ _ _ _ hT (INV_60 _ hI)
set_option maxRecDepth 100000 in
set_option maxHeartbeats 1000000 in
theorem lc_paper (C : CX D A RL code 7 ret tb p s m args meth c) (hNC : NC s) (hX : va_X b Ls xs s s.heap) (hbl : b < s.heap.size) (hbA : ¬ A b) (hfl : l.stackTraces = false) (hT : TG nr ng T) (hI : INV nr ng np nb σ) (hi : iL + 6 ≤ Ls) (hL : Ls ≤ 3072) {x5 x6 : Option Value} (hc : cells + 40 ≤ room_1.cells ∧ slots + 400 ≤ room_1.slots) (next : ∀ (T2 : List Nat) (ad2 : Nat → Nat) (σ2 : Mm) (nr2 ng2 np2 nb2 : Nat) (x5 x6 : Option Value), TG nr2 ng2 T2 → INV nr2 ng2 np2 nb2 σ2 → V D A 7 (T2, ad2, cO D ad2 σ2) p l e room_1 s m args below meth c (cells + 40) (slots + 400) Q 1624 [some (.ref b), some (.ref (ad2 0)), some (.ref (ad2 400)), some (.ref (ad2 399)), some (.int (nI iL)), x5, x6] []) : V D A 7 (T, ad, cO D ad σ) p l e room_1 s m args below meth c cells slots Q 1500 [some (.ref b), some (.ref (ad 0)), some (.ref (ad 400)), some (.ref (ad 399)), some (.int (nI iL)), x5, x6] [] := by
  have hT0 := hT
  refine r_aload1 (pc := 1500) C dL_law_1500 ?_
  refine r_aload0 (pc := 1501) C dL_law_1501 ?_
  refine r_iload4 (pc := 1502) C dL_law_1502 ?_
  refine r_iconst (pc := 1504) C (v := nI 1) dL_law_1504 (by decide) ?_
  refine r_iadd (pc := 1505) C dL_law_1505 ?_
  rw [show nI iL + nI 1 = nI (iL + 1) from nI_add iL 1]
  refine r_sld (pc := 1506) C hX hbl hbA (k := iL + 1) rfl (by omega) hL dL_law_1506 ?_
  refine r_aload0 (pc := 1507) C dL_law_1507 ?_
  refine r_iload4 (pc := 1508) C dL_law_1508 ?_
  refine r_iconst (pc := 1510) C (v := nI 2) dL_law_1510 (by decide) ?_
  refine r_iadd (pc := 1511) C dL_law_1511 ?_
  rw [show nI iL + nI 2 = nI (iL + 2) from nI_add iL 2]
  refine r_sld (pc := 1512) C hX hbl hbA (k := iL + 2) rfl (by omega) hL dL_law_1512 ?_
  refine r_aload3 (pc := 1513) C dL_law_1513 ?_
  refine r_callW (pc := 1514) C hNC (c_L_paper l D T ad σ hT ((xs (iL + 1))) ((xs (iL + 2))) (PP := (fun ov T2 ad2 σ2 => T2 = T ∧ ad2 = ad ∧ ∃ i j, i < ng ∧ j < 4 ∧ (xs (iL + 1)) = nI i ∧ (xs (iL + 2)) = nI j ∧ (σ 48 i = -1 ∧ 0 ≤ (σ 13 j - σ 14 j - σ 47 i)) ∧ ov = (σ 13 j - σ 14 j - σ 47 i) ∧ σ2 = (up (up σ 48 i (nI j)) 14 j (σ 14 j + σ 47 i)))) (c_X5_paper l D hfl T ad σ hT hI.1 ((xs (iL + 1))) ((xs (iL + 2)))) (fun ov S0 h => by
      obtain ⟨z0, z1, g1, g2, g3, g4, g5, g6, rfl⟩ := h
      exact ⟨T, ad, _, rfl, hT.f (by decide), rfl, rfl, rfl, z0, z1, g1, g2, g3, g4, g5, g6, rfl⟩) (fun E h => h.elim (fun h => Or.inl h.1) (fun h => Or.inr h.1))) ml_RL_170 st_L_paper ini_L cdW_L_paper hd_RL_170 rfl rfl (Nat.le_of_ble_eq_true rfl) ⟨rfl, rfl⟩ (by decide) hc dL_law_1514 ?_
  intro r S1 hpost
  rcases hpost with ⟨rfl, ov, _, _, σ2, ⟨rfl, rfl, hp⟩, rfl⟩ | ⟨rfl, he, rfl⟩ | ⟨rfl, he, rfl⟩
  · obtain ⟨hML3, hcd, hval, h60, h99, hI2⟩ := S_paper ((xs (iL + 1))) ((xs (iL + 2))) hI hp
    refine r_istore5 (pc := 1517) C dL_law_1517 ?_
    refine r_aload2 (pc := 1519) C dL_law_1519 ?_
    refine r_aload0 (pc := 1520) C dL_law_1520 ?_
    refine r_iload4 (pc := 1521) C dL_law_1521 ?_
    refine r_iconst (pc := 1523) C (v := nI 1) dL_law_1523 (by decide) ?_
    refine r_iadd (pc := 1524) C dL_law_1524 ?_
    rw [show nI iL + nI 1 = nI (iL + 1) from nI_add iL 1]
    refine r_sld (pc := 1525) C hX hbl hbA (k := iL + 1) rfl (by omega) hL dL_law_1525 ?_
    refine r_aload0 (pc := 1526) C dL_law_1526 ?_
    refine r_iload4 (pc := 1527) C dL_law_1527 ?_
    refine r_iconst (pc := 1529) C (v := nI 2) dL_law_1529 (by decide) ?_
    refine r_iadd (pc := 1530) C dL_law_1530 ?_
    rw [show nI iL + nI 2 = nI (iL + 2) from nI_add iL 2]
    refine r_sld (pc := 1531) C hX hbl hbA (k := iL + 2) rfl (by omega) hL dL_law_1531 ?_
    refine kL_172 (pc := 1532) C (c_X6_paper l D _ _ _ hT hML3 ((xs (iL + 1))) ((xs (iL + 2)))) (hT.f (by decide)) rfl dL_law_1532 (Nat.le_of_ble_eq_true rfl) ⟨⟨rfl, rfl⟩, by decide, hc.1, hc.2⟩ ?_
    rintro _ _ ⟨hy1, -⟩
    obtain ⟨rfl, rfl⟩ := hy1 hcd
    refine r_istore6 (pc := 1535) C dL_law_1535 ?_
    refine r_aload2 (pc := 1537) C dL_law_1537 ?_
    refine kL_101 (pc := 1538) C (c_X6_thrown l D _ _ _ hT) (hT.f (by decide)) rfl dL_law_1538 (Nat.le_of_ble_eq_true rfl) ⟨⟨rfl, rfl⟩, by decide, hc.1, hc.2⟩ ?_
    rintro _ _ ⟨rfl, rfl⟩
    rw [h60]
    refine r_iload5 (pc := 1541) C dL_law_1541 ?_
    refine r_icmp_eq (pc := 1543) C (tgt := 1548) dL_law_1543 (by decide) (fun _ => ?_) (fun z => absurd rfl z)
    refine r_iload5 (pc := 1548) C dL_law_1548 ?_
    refine r_if_ne (pc := 1550) C (tgt := 1565) dL_law_1550 (by decide) (fun z => absurd rfl z) (fun _ => ?_)
    refine r_aload3 (pc := 1553) C dL_law_1553 ?_
    refine r_iconst (pc := 1554) C (v := nI 0) dL_law_1554 (by decide) ?_
    refine r_lald (pc := 1555) C (t := 399) (k := 0) (hT.f (by decide)) rfl rfl (by decide) (by decide) dL_law_1555 ?_
    rw [h99.trans hval]
    refine r_iload6 (pc := 1556) C dL_law_1556 ?_
    refine r_i2l (pc := 1558) C dL_law_1558 ?_
    refine r_lcmp (pc := 1559) C dL_law_1559 ?_
    rw [lg_self]
    refine r_if_eq (pc := 1560) C (tgt := 1565) dL_law_1560 (by decide) (fun _ => ?_) (fun z => absurd rfl z)
    refine r_goto (pc := 1565) C (tgt := 1624) dL_law_1565 (by decide) ?_
    exact next _ _ _ _ _ _ _ _ _ hT hI2
  · refine r_istore5 (pc := 1517) C dL_law_1517 ?_
    refine r_aload2 (pc := 1519) C dL_law_1519 ?_
    refine r_aload0 (pc := 1520) C dL_law_1520 ?_
    refine r_iload4 (pc := 1521) C dL_law_1521 ?_
    refine r_iconst (pc := 1523) C (v := nI 1) dL_law_1523 (by decide) ?_
    refine r_iadd (pc := 1524) C dL_law_1524 ?_
    rw [show nI iL + nI 1 = nI (iL + 1) from nI_add iL 1]
    refine r_sld (pc := 1525) C hX hbl hbA (k := iL + 1) rfl (by omega) hL dL_law_1525 ?_
    refine r_aload0 (pc := 1526) C dL_law_1526 ?_
    refine r_iload4 (pc := 1527) C dL_law_1527 ?_
    refine r_iconst (pc := 1529) C (v := nI 2) dL_law_1529 (by decide) ?_
    refine r_iadd (pc := 1530) C dL_law_1530 ?_
    rw [show nI iL + nI 2 = nI (iL + 2) from nI_add iL 2]
    refine r_sld (pc := 1531) C hX hbl hbA (k := iL + 2) rfl (by omega) hL dL_law_1531 ?_
    refine kL_172 (pc := 1532) C (c_X6_paper l D _ _ _ hT hI.2.2.1 ((xs (iL + 1))) ((xs (iL + 2)))) (hT.f (by decide)) rfl dL_law_1532 (Nat.le_of_ble_eq_true rfl) ⟨⟨rfl, rfl⟩, by decide, hc.1, hc.2⟩ ?_
    have hcd := (E_paper ((xs (iL + 1))) ((xs (iL + 2))) hI).1 he
    have hne : ¬ (cd2 ((0 ≤ (xs (iL + 1)) ∧ (xs (iL + 1)) < nI ng) ∧ (0 ≤ (xs (iL + 2)) ∧ (xs (iL + 2)) ≤ 3)) (σ 92 (xs (iL + 1)).toNatClampNeg = -1 ∧ σ 97 (xs (iL + 2)).toNatClampNeg + σ 88 (xs (iL + 1)).toNatClampNeg ≤ cmM σ (xs (iL + 2)) nr)) = 0 := by rw [hcd]; decide
    rintro _ _ ⟨-, hy2⟩
    obtain ⟨rfl, rfl⟩ := hy2 hne
    rw [hcd]
    refine r_istore6 (pc := 1535) C dL_law_1535 ?_
    refine r_aload2 (pc := 1537) C dL_law_1537 ?_
    refine kL_101 (pc := 1538) C (c_X6_thrown l D _ _ _ hT) (hT.f (by decide)) rfl dL_law_1538 (Nat.le_of_ble_eq_true rfl) ⟨⟨rfl, rfl⟩, by decide, hc.1, hc.2⟩ ?_
    rintro _ _ ⟨rfl, rfl⟩
    rw [up_self]
    refine r_iload5 (pc := 1541) C dL_law_1541 ?_
    refine r_icmp_eq (pc := 1543) C (tgt := 1548) dL_law_1543 (by decide) (fun _ => ?_) (fun z => absurd rfl z)
    refine r_iload5 (pc := 1548) C dL_law_1548 ?_
    refine r_if_ne (pc := 1550) C (tgt := 1565) dL_law_1550 (by decide) (fun _ => ?_) (fun z => absurd z (by decide))
    refine r_goto (pc := 1565) C (tgt := 1624) dL_law_1565 (by decide) ?_
    exact next _ _ _ _ _ _ _ _ _ hT (INV_60 _ hI)
  · refine r_istore5 (pc := 1517) C dL_law_1517 ?_
    refine r_aload2 (pc := 1519) C dL_law_1519 ?_
    refine r_aload0 (pc := 1520) C dL_law_1520 ?_
    refine r_iload4 (pc := 1521) C dL_law_1521 ?_
    refine r_iconst (pc := 1523) C (v := nI 1) dL_law_1523 (by decide) ?_
    refine r_iadd (pc := 1524) C dL_law_1524 ?_
    rw [show nI iL + nI 1 = nI (iL + 1) from nI_add iL 1]
    refine r_sld (pc := 1525) C hX hbl hbA (k := iL + 1) rfl (by omega) hL dL_law_1525 ?_
    refine r_aload0 (pc := 1526) C dL_law_1526 ?_
    refine r_iload4 (pc := 1527) C dL_law_1527 ?_
    refine r_iconst (pc := 1529) C (v := nI 2) dL_law_1529 (by decide) ?_
    refine r_iadd (pc := 1530) C dL_law_1530 ?_
    rw [show nI iL + nI 2 = nI (iL + 2) from nI_add iL 2]
    refine r_sld (pc := 1531) C hX hbl hbA (k := iL + 2) rfl (by omega) hL dL_law_1531 ?_
    refine kL_172 (pc := 1532) C (c_X6_paper l D _ _ _ hT hI.2.2.1 ((xs (iL + 1))) ((xs (iL + 2)))) (hT.f (by decide)) rfl dL_law_1532 (Nat.le_of_ble_eq_true rfl) ⟨⟨rfl, rfl⟩, by decide, hc.1, hc.2⟩ ?_
    have hcd := (E_paper ((xs (iL + 1))) ((xs (iL + 2))) hI).2 he
    have hne : ¬ (cd2 ((0 ≤ (xs (iL + 1)) ∧ (xs (iL + 1)) < nI ng) ∧ (0 ≤ (xs (iL + 2)) ∧ (xs (iL + 2)) ≤ 3)) (σ 92 (xs (iL + 1)).toNatClampNeg = -1 ∧ σ 97 (xs (iL + 2)).toNatClampNeg + σ 88 (xs (iL + 1)).toNatClampNeg ≤ cmM σ (xs (iL + 2)) nr)) = 0 := by rw [hcd]; decide
    rintro _ _ ⟨-, hy2⟩
    obtain ⟨rfl, rfl⟩ := hy2 hne
    rw [hcd]
    refine r_istore6 (pc := 1535) C dL_law_1535 ?_
    refine r_aload2 (pc := 1537) C dL_law_1537 ?_
    refine kL_101 (pc := 1538) C (c_X6_thrown l D _ _ _ hT) (hT.f (by decide)) rfl dL_law_1538 (Nat.le_of_ble_eq_true rfl) ⟨⟨rfl, rfl⟩, by decide, hc.1, hc.2⟩ ?_
    rintro _ _ ⟨rfl, rfl⟩
    rw [up_self]
    refine r_iload5 (pc := 1541) C dL_law_1541 ?_
    refine r_icmp_eq (pc := 1543) C (tgt := 1548) dL_law_1543 (by decide) (fun _ => ?_) (fun z => absurd rfl z)
    refine r_iload5 (pc := 1548) C dL_law_1548 ?_
    refine r_if_ne (pc := 1550) C (tgt := 1565) dL_law_1550 (by decide) (fun _ => ?_) (fun z => absurd z (by decide))
    refine r_goto (pc := 1565) C (tgt := 1624) dL_law_1565 (by decide) ?_
    exact next _ _ _ _ _ _ _ _ _ hT (INV_60 _ hI)
set_option maxRecDepth 100000 in
set_option maxHeartbeats 1000000 in
theorem lc_all (C : CX D A RL code 7 ret tb p s m args meth c) (hNC : NC s) (hX : va_X b Ls xs s s.heap) (hbl : b < s.heap.size) (hbA : ¬ A b) (hfl : l.stackTraces = false) (hT : TG nr ng T) (hI : INV nr ng np nb σ) (hi : iL + 6 ≤ Ls) (hL : Ls ≤ 3072) {x5 x6 : Option Value} (hc : cells + 40 ≤ room_1.cells ∧ slots + 400 ≤ room_1.slots) (next : ∀ (T2 : List Nat) (ad2 : Nat → Nat) (σ2 : Mm) (nr2 ng2 np2 nb2 : Nat) (x5 x6 : Option Value), TG nr2 ng2 T2 → INV nr2 ng2 np2 nb2 σ2 → V D A 7 (T2, ad2, cO D ad2 σ2) p l e room_1 s m args below meth c (cells + 40) (slots + 400) Q 1624 [some (.ref b), some (.ref (ad2 0)), some (.ref (ad2 400)), some (.ref (ad2 399)), some (.int (nI iL)), x5, x6] []) : V D A 7 (T, ad, cO D ad σ) p l e room_1 s m args below meth c cells slots Q 1568 [some (.ref b), some (.ref (ad 0)), some (.ref (ad 400)), some (.ref (ad 399)), some (.int (nI iL)), x5, x6] [] := by
  have hT0 := hT
  refine r_aload1 (pc := 1568) C dL_law_1568 ?_
  refine r_aload0 (pc := 1569) C dL_law_1569 ?_
  refine r_iload4 (pc := 1570) C dL_law_1570 ?_
  refine r_iconst (pc := 1572) C (v := nI 1) dL_law_1572 (by decide) ?_
  refine r_iadd (pc := 1573) C dL_law_1573 ?_
  rw [show nI iL + nI 1 = nI (iL + 1) from nI_add iL 1]
  refine r_sld (pc := 1574) C hX hbl hbA (k := iL + 1) rfl (by omega) hL dL_law_1574 ?_
  refine r_aload3 (pc := 1575) C dL_law_1575 ?_
  refine r_callW (pc := 1576) C hNC (c_L_all l D T ad σ hT ((xs (iL + 1))) (PP := (fun ov T2 ad2 σ2 => T2 = T ∧ ad2 = ad ∧ (0 ≤ (xs (iL + 1)) ∧ (xs (iL + 1)) ≤ 5) ∧ ov = alC σ (xs (iL + 1)) ∧ σ2 = σ)) (c_X5_all l D hfl T ad σ hT hI.1 ((xs (iL + 1)))) (fun ov S0 h => by
      obtain ⟨g1, g2, rfl⟩ := h
      exact ⟨T, ad, _, rfl, hT.f (by decide), rfl, rfl, rfl, g1, g2, rfl⟩) (fun E h => h.1)) ml_RL_173 st_L_all ini_L cdW_L_all hd_RL_173 rfl rfl (Nat.le_of_ble_eq_true rfl) ⟨rfl, rfl⟩ (by decide) hc dL_law_1576 ?_
  intro r S1 hpost
  rcases hpost with ⟨rfl, ov, _, _, σ2, ⟨rfl, rfl, hp⟩, rfl⟩ | ⟨rfl, he, rfl⟩
  · obtain ⟨hML3, hcd, hval, h60, h99, hI2⟩ := S_all ((xs (iL + 1))) hI hp
    refine r_istore5 (pc := 1579) C dL_law_1579 ?_
    refine r_aload2 (pc := 1581) C dL_law_1581 ?_
    refine r_aload0 (pc := 1582) C dL_law_1582 ?_
    refine r_iload4 (pc := 1583) C dL_law_1583 ?_
    refine r_iconst (pc := 1585) C (v := nI 1) dL_law_1585 (by decide) ?_
    refine r_iadd (pc := 1586) C dL_law_1586 ?_
    rw [show nI iL + nI 1 = nI (iL + 1) from nI_add iL 1]
    refine r_sld (pc := 1587) C hX hbl hbA (k := iL + 1) rfl (by omega) hL dL_law_1587 ?_
    refine kL_175 (pc := 1588) C (c_X6_all l D _ _ _ hT hML3 ((xs (iL + 1)))) (hT.f (by decide)) rfl dL_law_1588 (Nat.le_of_ble_eq_true rfl) ⟨⟨rfl, rfl⟩, by decide, hc.1, hc.2⟩ ?_
    rintro _ _ ⟨hy1, -⟩
    obtain ⟨rfl, rfl⟩ := hy1 hcd
    refine r_istore6 (pc := 1591) C dL_law_1591 ?_
    refine r_aload2 (pc := 1593) C dL_law_1593 ?_
    refine kL_101 (pc := 1594) C (c_X6_thrown l D _ _ _ hT) (hT.f (by decide)) rfl dL_law_1594 (Nat.le_of_ble_eq_true rfl) ⟨⟨rfl, rfl⟩, by decide, hc.1, hc.2⟩ ?_
    rintro _ _ ⟨rfl, rfl⟩
    rw [h60]
    refine r_iload5 (pc := 1597) C dL_law_1597 ?_
    refine r_icmp_eq (pc := 1599) C (tgt := 1604) dL_law_1599 (by decide) (fun _ => ?_) (fun z => absurd rfl z)
    refine r_iload5 (pc := 1604) C dL_law_1604 ?_
    refine r_if_ne (pc := 1606) C (tgt := 1621) dL_law_1606 (by decide) (fun z => absurd rfl z) (fun _ => ?_)
    refine r_aload3 (pc := 1609) C dL_law_1609 ?_
    refine r_iconst (pc := 1610) C (v := nI 0) dL_law_1610 (by decide) ?_
    refine r_lald (pc := 1611) C (t := 399) (k := 0) (hT.f (by decide)) rfl rfl (by decide) (by decide) dL_law_1611 ?_
    rw [h99.trans hval]
    refine r_iload6 (pc := 1612) C dL_law_1612 ?_
    refine r_i2l (pc := 1614) C dL_law_1614 ?_
    refine r_lcmp (pc := 1615) C dL_law_1615 ?_
    rw [lg_self]
    refine r_if_eq (pc := 1616) C (tgt := 1621) dL_law_1616 (by decide) (fun _ => ?_) (fun z => absurd rfl z)
    refine r_goto (pc := 1621) C (tgt := 1624) dL_law_1621 (by decide) ?_
    exact next _ _ _ _ _ _ _ _ _ hT hI2
  · refine r_istore5 (pc := 1579) C dL_law_1579 ?_
    refine r_aload2 (pc := 1581) C dL_law_1581 ?_
    refine r_aload0 (pc := 1582) C dL_law_1582 ?_
    refine r_iload4 (pc := 1583) C dL_law_1583 ?_
    refine r_iconst (pc := 1585) C (v := nI 1) dL_law_1585 (by decide) ?_
    refine r_iadd (pc := 1586) C dL_law_1586 ?_
    rw [show nI iL + nI 1 = nI (iL + 1) from nI_add iL 1]
    refine r_sld (pc := 1587) C hX hbl hbA (k := iL + 1) rfl (by omega) hL dL_law_1587 ?_
    refine kL_175 (pc := 1588) C (c_X6_all l D _ _ _ hT hI.2.2.1 ((xs (iL + 1)))) (hT.f (by decide)) rfl dL_law_1588 (Nat.le_of_ble_eq_true rfl) ⟨⟨rfl, rfl⟩, by decide, hc.1, hc.2⟩ ?_
    have hcd := (E_all ((xs (iL + 1))) hI) he
    have hne : ¬ (cd1 (0 ≤ (xs (iL + 1)) ∧ (xs (iL + 1)) ≤ 5)) = 0 := by rw [hcd]; decide
    rintro _ _ ⟨-, hy2⟩
    obtain ⟨rfl, rfl⟩ := hy2 hne
    rw [hcd]
    refine r_istore6 (pc := 1591) C dL_law_1591 ?_
    refine r_aload2 (pc := 1593) C dL_law_1593 ?_
    refine kL_101 (pc := 1594) C (c_X6_thrown l D _ _ _ hT) (hT.f (by decide)) rfl dL_law_1594 (Nat.le_of_ble_eq_true rfl) ⟨⟨rfl, rfl⟩, by decide, hc.1, hc.2⟩ ?_
    rintro _ _ ⟨rfl, rfl⟩
    rw [up_self]
    refine r_iload5 (pc := 1597) C dL_law_1597 ?_
    refine r_icmp_eq (pc := 1599) C (tgt := 1604) dL_law_1599 (by decide) (fun _ => ?_) (fun z => absurd rfl z)
    refine r_iload5 (pc := 1604) C dL_law_1604 ?_
    refine r_if_ne (pc := 1606) C (tgt := 1621) dL_law_1606 (by decide) (fun _ => ?_) (fun z => absurd z (by decide))
    refine r_goto (pc := 1621) C (tgt := 1624) dL_law_1621 (by decide) ?_
    exact next _ _ _ _ _ _ _ _ _ hT (INV_60 _ hI)
end LAWCASES

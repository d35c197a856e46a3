def allL : Nat → Bool := fun _ => true
def t2L (l : Nat → Bool) (S : MS) (F b : Nat) : Nat → Bool := skL (weiL (skL (heiL l S F (S.2 10 (7 * b + 3))) (at7 S 4) (S.2 10 (7 * b + 4)) F) S F (S.2 10 (7 * b + 5))) (at7 S 6) (S.2 10 (7 * b + 6)) F
def t1L (l : Nat → Bool) (S : MS) (F b : Nat) : Nat → Bool := t2L (if S.2 10 (7 * b + 1) = 0 then pitL (skL l (at7 S 1) (S.2 10 (7 * b + 1)) F) S F (S.2 10 (7 * b + 2)) else skL l (at7 S 1) (S.2 10 (7 * b + 1)) F) S F b
def chL (S : MS) (F b : Nat) : Nat → Bool := t1L (if anyI allL (at7 S 0) (S.2 10 (7 * b)) F = true then skL allL (at7 S 0) (S.2 10 (7 * b)) F else skL (skL allL (at7 S 0) (S.2 10 (7 * b)) F) (at7 S 0) 277 F) S F b
def ltI (l : Nat → Bool) : Nat → Int32
  | 0 => -1
  | k + 1 => if l k = true then nI k else ltI l k
def ownL (S : MS) (l : Nat → Bool) : Nat → Bool := fun i => l i && decide (S.2 4 i = 0)
def finI (S : MS) (F : Nat) (l : Nat → Bool) : Int32 := if 0 ≤ ltI (ownL S l) F then ltI (ownL S l) F else ltI l F
def pinV (S : MS) (F b : Nat) : Int32 := if 0 ≤ S.2 11 b then lastIx (S.2 2) (S.2 11 b) F else -1
def chI (S : MS) (F b : Nat) : Int32 := if 0 ≤ pinV S F b ∨ F = 0 then pinV S F b else finI S F (chL S F b)
theorem ltI_rng {l : Nat → Bool} : ∀ F : Nat, ltI l F = -1 ∨ ∃ k, k < F ∧ ltI l F = nI k ∧ l k = true
  | 0 => Or.inl rfl
  | k + 1 => by
    rw [ltI]
    by_cases h : l k = true
    · rw [if_pos h]; exact Or.inr ⟨k, by omega, rfl, h⟩
    · rw [if_neg h]
      rcases ltI_rng (l := l) k with h1 | ⟨j, h1, h2, h3⟩
      · exact Or.inl h1
      · exact Or.inr ⟨j, by omega, h2, h3⟩
theorem lastIx_rng {f : Nat → Int32} {x : Int32} : ∀ F : Nat, lastIx f x F = -1 ∨ ∃ k, k < F ∧ lastIx f x F = nI k ∧ f k = x
  | 0 => Or.inl rfl
  | k + 1 => by
    rw [lastIx]
    by_cases h : f k = x
    · rw [if_pos h]; exact Or.inr ⟨k, by omega, rfl, h⟩
    · rw [if_neg h]
      rcases lastIx_rng (f := f) (x := x) k with h1 | ⟨j, h1, h2, h3⟩
      · exact Or.inl h1
      · exact Or.inr ⟨j, by omega, h2, h3⟩
theorem chI_rng (S : MS) (F b : Nat) : chI S F b = -1 ∨ ∃ k, k < F ∧ chI S F b = nI k := by
  unfold chI
  split
  · unfold pinV
    split
    · rcases lastIx_rng (f := S.2 2) (x := S.2 11 b) F with h | ⟨k, h, h2, -⟩
      · exact Or.inl h
      · exact Or.inr ⟨k, h, h2⟩
    · exact Or.inl rfl
  · unfold finI
    split
    · rcases ltI_rng (l := ownL S (chL S F b)) F with h | ⟨k, h, h2, -⟩
      · exact Or.inl h
      · exact Or.inr ⟨k, h, h2⟩
    · rcases ltI_rng (l := chL S F b) F with h | ⟨k, h, h2, -⟩
      · exact Or.inl h
      · exact Or.inr ⟨k, h, h2⟩
theorem lt_t {l : Nat → Bool} {k : Nat} (h : ¬ bI (l k) = 0) : ltI l (k + 1) = nI k := if_pos (bI_n h)
theorem lt_f {l : Nat → Bool} {k : Nat} (h : bI (l k) = 0) : ltI l (k + 1) = ltI l k := if_neg (by rw [bI_z h]; decide)
theorem own_t {S : MS} {l : Nat → Bool} {k : Nat} (h : ¬ bI (l k) = 0) (h2 : S.2 4 k = 0) : ltI (ownL S l) (k + 1) = nI k := if_pos (by unfold ownL; rw [bI_n h, decide_eq_true h2]; rfl)
theorem own_f1 {S : MS} {l : Nat → Bool} {k : Nat} (h : bI (l k) = 0) : ltI (ownL S l) (k + 1) = ltI (ownL S l) k := if_neg (by unfold ownL; rw [bI_z h, Bool.false_and]; decide)
theorem own_f2 {S : MS} {l : Nat → Bool} {k : Nat} (h2 : ¬ S.2 4 k = 0) : ltI (ownL S l) (k + 1) = ltI (ownL S l) k := if_neg (by unfold ownL; rw [decide_eq_false h2, Bool.and_false]; decide)
set_option maxHeartbeats 4000000 in
set_option maxRecDepth 100000 in
theorem lp_ch {K : KT} {h : AH} {mo : Nat} {ad : Nat → Nat} {S : MS} {f : Nat → Int32} {l : Nat → Bool} {F b : Nat} {z2 z3 z4 : Int32} {Q : QR} {X : QX} (hds : mDis mo ad) (hF : S.1 1 = nI F) (hF2 : F ≤ 32) (hl : lRep (mA S 19 f) l F) (hq : Q (some (.int (finI S F l))) (mPut h mo ad (mA S 19 f))) : ∀ t k : Nat, k + t = F → V K mX4_choose 200 [some (.ref mo), some (.int (nI b)), some (.int z2), some (.int z3), some (.int z4), some (.int (ltI l k)), some (.int (ltI (ownL S l) k)), some (.int (nI k))] [] (mPut h mo ad (mA S 19 f)) 0 0 Q X := by
  intro t
  induction t with
  | zero =>
    intro k hk
    have hkF : k = F := by omega
    subst hkF
    refine v_iload 200 dX4_choose_200 rfl ?_
    refine v_aload_n 202 dX4_choose_202 rfl rfl ?_
    refine v_getf 203 dX4_choose_203 fl_X4_66 mPut_o rfl ?_
    refine v_icmp_ge (tgt := 263) 206 dX4_choose_206 (by decide) (fun c206 => ?_) (fun c206 => absurd (by rw [mA_1, hF]; exact nI_le (Nat.le_refl _) (by omega)) c206)
    refine v_iload 263 dX4_choose_263 rfl ?_
    refine v_if_ge (tgt := 273) 265 dX4_choose_265 (by decide) (fun c265 => ?_) (fun c265 => ?_)
    · refine v_iload 273 dX4_choose_273 rfl ?_
      refine v_iret 275 dX4_choose_275 rfl rfl ?_
      rw [finI, if_pos c265] at hq
      exact hq
    · refine v_iload 268 dX4_choose_268 rfl ?_
      refine v_goto (tgt := 275) 270 dX4_choose_270 (by decide) ?_
      refine v_iret 275 dX4_choose_275 rfl rfl ?_
      rw [finI, if_neg c265] at hq
      exact hq
  | succ t ih =>
    intro k hk
    have hlk : (mA S 19 f).2 19 (nI k).toNatClampNeg = bI (l k) := by rw [nI_clamp (by omega)]; exact hl k (by omega)
    have hpk : (mA S 19 f).2 4 (nI k).toNatClampNeg = S.2 4 k := by rw [nI_clamp (by omega)]; rfl
    refine v_iload 200 dX4_choose_200 rfl ?_
    refine v_aload_n 202 dX4_choose_202 rfl rfl ?_
    refine v_getf 203 dX4_choose_203 fl_X4_66 mPut_o rfl ?_
    refine v_icmp_ge (tgt := 263) 206 dX4_choose_206 (by decide) (fun c206 => absurd c206 (by rw [mA_1, hF]; exact nI_ge (by omega) (by omega))) (fun c206 => ?_)
    refine v_aload_n 209 dX4_choose_209 rfl rfl ?_
    refine v_getf 210 dX4_choose_210 fl_X4_42 mPut_o rfl ?_
    refine v_iload 213 dX4_choose_213 rfl ?_
    refine m_zld 215 19 dX4_choose_215 hds (vp_in_nI (N := 32) (by omega) (by decide)) ?_
    refine v_if_eq (tgt := 224) 216 dX4_choose_216 (by decide) (fun c216 => ?_) (fun c216 => ?_)
    · refine v_iload 224 dX4_choose_224 rfl ?_
      refine v_ist5 226 dX4_choose_226 ?_
      refine v_aload_n 228 dX4_choose_228 rfl rfl ?_
      refine v_getf 229 dX4_choose_229 fl_X4_42 mPut_o rfl ?_
      refine v_iload 232 dX4_choose_232 rfl ?_
      refine m_zld 234 19 dX4_choose_234 hds (vp_in_nI (N := 32) (by omega) (by decide)) ?_
      refine v_if_eq (tgt := 253) 235 dX4_choose_235 (by decide) (fun c235 => ?_) (fun c235 => absurd (c216) c235)
      refine v_iload 253 dX4_choose_253 rfl ?_
      refine v_ist6 255 dX4_choose_255 ?_
      refine v_inc7 (y := 1) 257 dX4_choose_257 (by decide) ?_
      refine v_goto (tgt := 200) 260 dX4_choose_260 (by decide) ?_
      refine V.eq (ih (k + 1) (by omega)) rfl ?_ rfl rfl
      rw [← nI_1]
      first
        | rw [lt_f (by rw [← hlk]; exact c216), own_f1 (by rw [← hlk]; exact c216)] <;> rfl
        | rw [lt_t (by rw [← hlk]; exact c216), own_f2 (by rw [← hpk]; exact c245)] <;> rfl
        | rw [lt_t (by rw [← hlk]; exact c216), own_t (by rw [← hlk]; exact c216) (by rw [← hpk]; exact c245)] <;> rfl
    · refine v_iload 219 dX4_choose_219 rfl ?_
      refine v_goto (tgt := 226) 221 dX4_choose_221 (by decide) ?_
      refine v_ist5 226 dX4_choose_226 ?_
      refine v_aload_n 228 dX4_choose_228 rfl rfl ?_
      refine v_getf 229 dX4_choose_229 fl_X4_42 mPut_o rfl ?_
      refine v_iload 232 dX4_choose_232 rfl ?_
      refine m_zld 234 19 dX4_choose_234 hds (vp_in_nI (N := 32) (by omega) (by decide)) ?_
      refine v_if_eq (tgt := 253) 235 dX4_choose_235 (by decide) (fun c235 => absurd c235 (c216)) (fun c235 => ?_)
      refine v_aload_n 238 dX4_choose_238 rfl rfl ?_
      refine v_getf 239 dX4_choose_239 fl_X4_16 mPut_o rfl ?_
      refine v_iload 242 dX4_choose_242 rfl ?_
      refine m_zld 244 4 dX4_choose_244 hds (vp_in_nI (N := 33) (by omega) (by decide)) ?_
      refine v_if_ne (tgt := 253) 245 dX4_choose_245 (by decide) (fun c245 => ?_) (fun c245 => ?_)
      · refine v_iload 253 dX4_choose_253 rfl ?_
        refine v_ist6 255 dX4_choose_255 ?_
        refine v_inc7 (y := 1) 257 dX4_choose_257 (by decide) ?_
        refine v_goto (tgt := 200) 260 dX4_choose_260 (by decide) ?_
        refine V.eq (ih (k + 1) (by omega)) rfl ?_ rfl rfl
        rw [← nI_1]
        first
          | rw [lt_f (by rw [← hlk]; exact c216), own_f1 (by rw [← hlk]; exact c216)] <;> rfl
          | rw [lt_t (by rw [← hlk]; exact c216), own_f2 (by rw [← hpk]; exact c245)] <;> rfl
          | rw [lt_t (by rw [← hlk]; exact c216), own_t (by rw [← hlk]; exact c216) (by rw [← hpk]; exact c245)] <;> rfl
      · refine v_iload 248 dX4_choose_248 rfl ?_
        refine v_goto (tgt := 255) 250 dX4_choose_250 (by decide) ?_
        refine v_ist6 255 dX4_choose_255 ?_
        refine v_inc7 (y := 1) 257 dX4_choose_257 (by decide) ?_
        refine v_goto (tgt := 200) 260 dX4_choose_260 (by decide) ?_
        refine V.eq (ih (k + 1) (by omega)) rfl ?_ rfl rfl
        rw [← nI_1]
        first
          | rw [lt_f (by rw [← hlk]; exact c216), own_f1 (by rw [← hlk]; exact c216)] <;> rfl
          | rw [lt_t (by rw [← hlk]; exact c216), own_f2 (by rw [← hpk]; exact c245)] <;> rfl
          | rw [lt_t (by rw [← hlk]; exact c216), own_t (by rw [← hlk]; exact c216) (by rw [← hpk]; exact c245)] <;> rfl
set_option maxHeartbeats 4000000 in
set_option maxRecDepth 100000 in
theorem ch_t2 {K : KT} {h : AH} {mo : Nat} {ad : Nat → Nat} {S : MS} {f : Nat → Int32} {l : Nat → Bool} {F b : Nat} {z2 z4 : Int32} {Q : QR} {X : QX} (hds : mDis mo ad) (hF : S.1 1 = nI F) (hF2 : F ≤ 32) (hl : lRep (mA S 19 f) l F) (hb : b < 2) (hq : ∀ f', Q (some (.int (finI S F (t2L l S F b)))) (mPut h mo ad (mA S 19 f'))) : V K mX4_choose 135 [some (.ref mo), some (.int (nI b)), some (.int z2), some (.int (nI (7 * b))), some (.int z4), none, none, none] [] (mPut h mo ad (mA S 19 f)) 0 0 Q X := by
  have i0 : ∀ j : Nat, j < 7 → vp_in (nI (7 * b) + nI j) 14 := fun j hj => by rw [nI_add]; exact vp_in_nI (N := 14) (by omega) (by decide)
  have ew1 : ∀ g, (mA S 19 g).2 10 (nI (7 * b) + 1).toNatClampNeg = S.2 10 (7 * b + 1) := fun g => by rw [show (1 : Int32) = nI 1 from rfl, nI_add, nI_clamp (by omega)]; rfl
  have ew2 : ∀ g, (mA S 19 g).2 10 (nI (7 * b) + 2).toNatClampNeg = S.2 10 (7 * b + 2) := fun g => by rw [show (2 : Int32) = nI 2 from rfl, nI_add, nI_clamp (by omega)]; rfl
  have ew3 : ∀ g, (mA S 19 g).2 10 (nI (7 * b) + 3).toNatClampNeg = S.2 10 (7 * b + 3) := fun g => by rw [show (3 : Int32) = nI 3 from rfl, nI_add, nI_clamp (by omega)]; rfl
  have ew4 : ∀ g, (mA S 19 g).2 10 (nI (7 * b) + 4).toNatClampNeg = S.2 10 (7 * b + 4) := fun g => by rw [show (4 : Int32) = nI 4 from rfl, nI_add, nI_clamp (by omega)]; rfl
  have ew5 : ∀ g, (mA S 19 g).2 10 (nI (7 * b) + 5).toNatClampNeg = S.2 10 (7 * b + 5) := fun g => by rw [show (5 : Int32) = nI 5 from rfl, nI_add, nI_clamp (by omega)]; rfl
  have ew6 : ∀ g, (mA S 19 g).2 10 (nI (7 * b) + 6).toNatClampNeg = S.2 10 (7 * b + 6) := fun g => by rw [show (6 : Int32) = nI 6 from rfl, nI_add, nI_clamp (by omega)]; rfl
  refine v_aload_n 135 dX4_choose_135 rfl rfl ?_
  refine v_aload_n 136 dX4_choose_136 rfl rfl ?_
  refine v_getf 137 dX4_choose_137 fl_X4_30 mPut_o rfl ?_
  refine v_iload_n 140 dX4_choose_140 rfl rfl ?_
  refine v_iconst (v := 3) 141 dX4_choose_141 (by decide) ?_
  refine v_iadd 142 dX4_choose_142 ?_
  refine m_ild 143 10 dX4_choose_143 hds (i0 3 (by decide)) ?_
  rw [ew3]
  refine m_call 144 [.int _] dX4_choose_144 cv_X4_120 (ct_byHeight hds hF hF2 hl) (fun r h' hq' => ?_)
  obtain ⟨rfl, g1, rfl, hg1⟩ := hq'
  refine v_aload_n 147 dX4_choose_147 rfl rfl ?_
  refine v_iconst (v := 4) 148 dX4_choose_148 (by decide) ?_
  refine v_aload_n 149 dX4_choose_149 rfl rfl ?_
  refine v_getf 150 dX4_choose_150 fl_X4_30 mPut_o rfl ?_
  refine v_iload_n 153 dX4_choose_153 rfl rfl ?_
  refine v_iconst (v := 4) 154 dX4_choose_154 (by decide) ?_
  refine v_iadd 155 dX4_choose_155 ?_
  refine m_ild 156 10 dX4_choose_156 hds (i0 4 (by decide)) ?_
  rw [ew4]
  refine m_call 157 [.int (nI 4), .int _] dX4_choose_157 cv_X4_114 (ct_stk (w := 4) hds hF hF2 (by decide) hg1) (fun r h' hq' => ?_)
  obtain ⟨g2, rfl, rfl, hg2⟩ := hq'
  refine v_ist4 160 dX4_choose_160 ?_
  refine v_aload_n 162 dX4_choose_162 rfl rfl ?_
  refine v_aload_n 163 dX4_choose_163 rfl rfl ?_
  refine v_getf 164 dX4_choose_164 fl_X4_30 mPut_o rfl ?_
  refine v_iload_n 167 dX4_choose_167 rfl rfl ?_
  refine v_iconst (v := 5) 168 dX4_choose_168 (by decide) ?_
  refine v_iadd 169 dX4_choose_169 ?_
  refine m_ild 170 10 dX4_choose_170 hds (i0 5 (by decide)) ?_
  rw [ew5]
  refine m_call 171 [.int _] dX4_choose_171 cv_X4_123 (ct_byWeight hds hF hF2 hg2) (fun r h' hq' => ?_)
  obtain ⟨rfl, g3, rfl, hg3⟩ := hq'
  refine v_aload_n 174 dX4_choose_174 rfl rfl ?_
  refine v_bipush (v := 6) 175 dX4_choose_175 (by decide) ?_
  refine v_aload_n 177 dX4_choose_177 rfl rfl ?_
  refine v_getf 178 dX4_choose_178 fl_X4_30 mPut_o rfl ?_
  refine v_iload_n 181 dX4_choose_181 rfl rfl ?_
  refine v_bipush (v := 6) 182 dX4_choose_182 (by decide) ?_
  refine v_iadd 184 dX4_choose_184 ?_
  refine m_ild 185 10 dX4_choose_185 hds (i0 6 (by decide)) ?_
  rw [ew6]
  refine m_call 186 [.int (nI 6), .int _] dX4_choose_186 cv_X4_114 (ct_stk (w := 6) hds hF hF2 (by decide) hg3) (fun r h' hq' => ?_)
  obtain ⟨g4, rfl, rfl, hg4⟩ := hq'
  refine v_ist4 189 dX4_choose_189 ?_
  refine v_iconst (v := -1) 191 dX4_choose_191 (by decide) ?_
  refine v_ist5 192 dX4_choose_192 ?_
  refine v_iconst (v := -1) 194 dX4_choose_194 (by decide) ?_
  refine v_ist6 195 dX4_choose_195 ?_
  refine v_iconst (v := 0) 197 dX4_choose_197 (by decide) ?_
  refine v_ist7 198 dX4_choose_198 ?_
  exact V.eq (lp_ch (b := b) hds hF hF2 hg4 (hq g4) F 0 (by omega)) rfl rfl rfl rfl
set_option maxHeartbeats 4000000 in
set_option maxRecDepth 100000 in
theorem ch_t1 {K : KT} {h : AH} {mo : Nat} {ad : Nat → Nat} {S : MS} {f : Nat → Int32} {l : Nat → Bool} {F b : Nat} {z2 z4 : Int32} {Q : QR} {X : QX} (hds : mDis mo ad) (hF : S.1 1 = nI F) (hF2 : F ≤ 32) (hl : lRep (mA S 19 f) l F) (hb : b < 2) (hq : ∀ f', Q (some (.int (finI S F (t1L l S F b)))) (mPut h mo ad (mA S 19 f'))) : V K mX4_choose 97 [some (.ref mo), some (.int (nI b)), some (.int z2), some (.int (nI (7 * b))), some (.int z4), none, none, none] [] (mPut h mo ad (mA S 19 f)) 0 0 Q X := by
  have i0 : ∀ j : Nat, j < 7 → vp_in (nI (7 * b) + nI j) 14 := fun j hj => by rw [nI_add]; exact vp_in_nI (N := 14) (by omega) (by decide)
  have ew1 : ∀ g, (mA S 19 g).2 10 (nI (7 * b) + 1).toNatClampNeg = S.2 10 (7 * b + 1) := fun g => by rw [show (1 : Int32) = nI 1 from rfl, nI_add, nI_clamp (by omega)]; rfl
  have ew2 : ∀ g, (mA S 19 g).2 10 (nI (7 * b) + 2).toNatClampNeg = S.2 10 (7 * b + 2) := fun g => by rw [show (2 : Int32) = nI 2 from rfl, nI_add, nI_clamp (by omega)]; rfl
  have ew3 : ∀ g, (mA S 19 g).2 10 (nI (7 * b) + 3).toNatClampNeg = S.2 10 (7 * b + 3) := fun g => by rw [show (3 : Int32) = nI 3 from rfl, nI_add, nI_clamp (by omega)]; rfl
  have ew4 : ∀ g, (mA S 19 g).2 10 (nI (7 * b) + 4).toNatClampNeg = S.2 10 (7 * b + 4) := fun g => by rw [show (4 : Int32) = nI 4 from rfl, nI_add, nI_clamp (by omega)]; rfl
  have ew5 : ∀ g, (mA S 19 g).2 10 (nI (7 * b) + 5).toNatClampNeg = S.2 10 (7 * b + 5) := fun g => by rw [show (5 : Int32) = nI 5 from rfl, nI_add, nI_clamp (by omega)]; rfl
  have ew6 : ∀ g, (mA S 19 g).2 10 (nI (7 * b) + 6).toNatClampNeg = S.2 10 (7 * b + 6) := fun g => by rw [show (6 : Int32) = nI 6 from rfl, nI_add, nI_clamp (by omega)]; rfl
  refine v_aload_n 97 dX4_choose_97 rfl rfl ?_
  refine v_iconst (v := 1) 98 dX4_choose_98 (by decide) ?_
  refine v_aload_n 99 dX4_choose_99 rfl rfl ?_
  refine v_getf 100 dX4_choose_100 fl_X4_30 mPut_o rfl ?_
  refine v_iload_n 103 dX4_choose_103 rfl rfl ?_
  refine v_iconst (v := 1) 104 dX4_choose_104 (by decide) ?_
  refine v_iadd 105 dX4_choose_105 ?_
  refine m_ild 106 10 dX4_choose_106 hds (i0 1 (by decide)) ?_
  rw [ew1]
  refine m_call 107 [.int (nI 1), .int _] dX4_choose_107 cv_X4_114 (ct_stk (w := 1) hds hF hF2 (by decide) hl) (fun r h' hq' => ?_)
  obtain ⟨g1, rfl, rfl, hg1⟩ := hq'
  refine v_ist4 110 dX4_choose_110 ?_
  refine v_aload_n 112 dX4_choose_112 rfl rfl ?_
  refine v_getf 113 dX4_choose_113 fl_X4_30 mPut_o rfl ?_
  refine v_iload_n 116 dX4_choose_116 rfl rfl ?_
  refine v_iconst (v := 1) 117 dX4_choose_117 (by decide) ?_
  refine v_iadd 118 dX4_choose_118 ?_
  refine m_ild 119 10 dX4_choose_119 hds (i0 1 (by decide)) ?_
  rw [ew1]
  refine v_if_ne (tgt := 135) 120 dX4_choose_120 (by decide) (fun c120 => ?_) (fun c120 => ?_)
  · rw [t1L] at hq
    first
      | (rw [if_neg c120] at hq; exact ch_t2 hds hF hF2 hg1 hb hq)
      | (rw [if_pos c120] at hq; exact ch_t2 hds hF hF2 hg2 hb hq)
  · refine v_aload_n 123 dX4_choose_123 rfl rfl ?_
    refine v_aload_n 124 dX4_choose_124 rfl rfl ?_
    refine v_getf 125 dX4_choose_125 fl_X4_30 mPut_o rfl ?_
    refine v_iload_n 128 dX4_choose_128 rfl rfl ?_
    refine v_iconst (v := 2) 129 dX4_choose_129 (by decide) ?_
    refine v_iadd 130 dX4_choose_130 ?_
    refine m_ild 131 10 dX4_choose_131 hds (i0 2 (by decide)) ?_
    rw [ew2]
    refine m_call 132 [.int _] dX4_choose_132 cv_X4_117 (ct_byPitch hds hF hF2 hg1) (fun r h' hq' => ?_)
    obtain ⟨rfl, g2, rfl, hg2⟩ := hq'
    rw [t1L] at hq
    first
      | (rw [if_neg c120] at hq; exact ch_t2 hds hF hF2 hg1 hb hq)
      | (rw [if_pos c120] at hq; exact ch_t2 hds hF hF2 hg2 hb hq)
set_option maxHeartbeats 4000000 in
set_option maxRecDepth 100000 in
theorem lp_chA {K : KT} {h : AH} {mo : Nat} {ad : Nat → Nat} {S : MS} {F b : Nat} {z2 : Int32} {Q : QR} {X : QX} (hds : mDis mo ad) (hF : S.1 1 = nI F) (hF2 : F ≤ 32) (kk : V K mX4_choose 60 [some (.ref mo), some (.int (nI b)), some (.int z2), some (.int (nI F)), none, none, none, none] [] (mPut h mo ad (mA S 19 (skF (S.2 19) allL (fun _ => 0) 0 F))) 0 0 Q X) : ∀ t k : Nat, k + t = F → V K mX4_choose 39 [some (.ref mo), some (.int (nI b)), some (.int z2), some (.int (nI k)), none, none, none, none] [] (mPut h mo ad (mA S 19 (skF (S.2 19) allL (fun _ => 0) 0 k))) 0 0 Q X := by
  intro t
  induction t with
  | zero =>
    intro k hk
    have hkF : k = F := by omega
    subst hkF
    refine v_iload_n 39 dX4_choose_39 rfl rfl ?_
    refine v_aload_n 40 dX4_choose_40 rfl rfl ?_
    refine v_getf 41 dX4_choose_41 fl_X4_66 mPut_o rfl ?_
    refine v_icmp_ge (tgt := 60) 44 dX4_choose_44 (by decide) (fun c44 => ?_) (fun c44 => absurd (by rw [mA_1, hF]; exact nI_le (Nat.le_refl _) (by omega)) c44)
    exact kk
  | succ t ih =>
    intro k hk
    refine v_iload_n 39 dX4_choose_39 rfl rfl ?_
    refine v_aload_n 40 dX4_choose_40 rfl rfl ?_
    refine v_getf 41 dX4_choose_41 fl_X4_66 mPut_o rfl ?_
    refine v_icmp_ge (tgt := 60) 44 dX4_choose_44 (by decide) (fun c44 => absurd c44 (by rw [mA_1, hF]; exact nI_ge (by omega) (by omega))) (fun c44 => ?_)
    refine v_aload_n 47 dX4_choose_47 rfl rfl ?_
    refine v_getf 48 dX4_choose_48 fl_X4_42 mPut_o rfl ?_
    refine v_iload_n 51 dX4_choose_51 rfl rfl ?_
    refine v_iconst (v := 1) 52 dX4_choose_52 (by decide) ?_
    refine m_zst 53 19 dX4_choose_53 hds (vp_in_nI (N := 32) (by omega) (by decide)) ?_
    refine v_inc3 (y := 1) 54 dX4_choose_54 (by decide) ?_
    refine v_goto (tgt := 39) 57 dX4_choose_57 (by decide) ?_
    refine V.eq (ih (k + 1) (by omega)) rfl (by rw [← nI_1]) rfl (congrArg (mPut h mo ad) ?_)
    rw [mA_mA, mA_s, nI_clamp (by omega)]
    exact congrArg (mA S 19) (skF_s _ _ _ _ k rfl).symm
set_option maxHeartbeats 4000000 in
set_option maxRecDepth 100000 in
theorem ct_choose {K : KT} {h : AH} {mo : Nat} {ad : Nat → Nat} {S : MS} {F b : Nat} (hds : mDis mo ad) (hF : S.1 1 = nI F) (hF2 : F ≤ 32) (hb : b < 2) : Ct K mX4_choose 0 0 [.ref mo, .int (nI b)] (mPut h mo ad S) (fun r h' => r = some (.int (chI S F b)) ∧ ∃ f, h' = mPut h mo ad (mA S 19 f)) noX := by
  have ep : S.2 11 (nI b).toNatClampNeg = S.2 11 b := by rw [nI_clamp (by omega)]
  have ew0 : ∀ g, (mA S 19 g).2 10 (nI (7 * b)).toNatClampNeg = S.2 10 (7 * b) := fun g => by rw [nI_clamp (by omega)]; rfl
  refine ct_of (by decide +kernel) rfl (Nat.le_of_ble_eq_true rfl) rfl ?_
  refine v_aload_n 0 dX4_choose_0 rfl rfl ?_
  refine v_getf 1 dX4_choose_1 fl_X4_33 mPut_o rfl ?_
  refine v_iload_n 4 dX4_choose_4 rfl rfl ?_
  refine m_ild 5 11 dX4_choose_5 hds (vp_in_nI (N := 2) (by omega) (by decide)) ?_
  rw [ep]
  refine v_if_ge (tgt := 13) 6 dX4_choose_6 (by decide) (fun c6 => ?_) (fun c6 => ?_)
  · refine v_aload_n 13 dX4_choose_13 rfl rfl ?_
    refine v_aload_n 14 dX4_choose_14 rfl rfl ?_
    refine v_getf 15 dX4_choose_15 fl_X4_33 mPut_o rfl ?_
    refine v_iload_n 18 dX4_choose_18 rfl rfl ?_
    refine m_ild 19 11 dX4_choose_19 hds (vp_in_nI (N := 2) (by omega) (by decide)) ?_
    rw [ep]
    refine m_call 20 [.int (S.2 11 b)] dX4_choose_20 cv_X4_86 (ct_fontOf (F := F) hds hF (by omega)) (fun r h' hq' => ?_)
    obtain ⟨rfl, rfl⟩ := hq'
    have hpv : ∀ z : Int32, z = pinV S F b → V K mX4_choose 23 [some (.ref mo), some (.int (nI b)), none, none, none, none, none, none] [.int z] (mPut h mo ad S) 0 0 (fun r h' => r = some (.int (chI S F b)) ∧ ∃ f, h' = mPut h mo ad (mA S 19 f)) noX := by
      intro z hz
      refine v_ist2 23 dX4_choose_23 ?_
      refine v_iload_n 24 dX4_choose_24 rfl rfl ?_
      refine v_if_ge (tgt := 35) 25 dX4_choose_25 (by decide) (fun c25 => ?_) (fun c25 => ?_)
      · refine v_iload_n 35 dX4_choose_35 rfl rfl ?_
        refine v_iret 36 dX4_choose_36 rfl rfl ?_
        refine ⟨?_, S.2 19, by rw [mA_self]⟩
        rw [chI, if_pos (Or.inl (hz ▸ c25)), hz]
      · refine v_aload_n 28 dX4_choose_28 rfl rfl ?_
        refine v_getf 29 dX4_choose_29 fl_X4_66 mPut_o rfl ?_
        refine v_if_ne (tgt := 37) 32 dX4_choose_32 (by decide) (fun c32 => ?_) (fun c32 => ?_)
        · refine v_iconst (v := 0) 37 dX4_choose_37 (by decide) ?_
          refine v_ist3 38 dX4_choose_38 ?_
          refine V.eq (lp_chA (S := S) (F := F) (b := b) hds hF hF2 ?_ F 0 (by omega)) rfl rfl rfl (congrArg (mPut h mo ad) (by rw [skF_0, mA_self]))
          have hA : lRep (mA S 19 (skF (S.2 19) allL (fun _ => 0) 0 F)) allL F := by
            intro i hi
            rw [mA_s]
            exact if_pos hi
          have hc : chI S F b = finI S F (chL S F b) := by
            rw [chI, if_neg]
            rintro (q | q)
            · exact c25 (hz ▸ q)
            · exact c32 (by rw [hF, q]; rfl)
          rw [hc, chL]
          refine v_bipush (v := 7) 60 dX4_choose_60 (by decide) ?_
          refine v_iload_n 62 dX4_choose_62 rfl rfl ?_
          refine v_imul 63 dX4_choose_63 ?_
          refine v_ist3 64 dX4_choose_64 ?_
          rw [m7]
          refine v_aload_n 65 dX4_choose_65 rfl rfl ?_
          refine v_iconst (v := 0) 66 dX4_choose_66 (by decide) ?_
          refine v_aload_n 67 dX4_choose_67 rfl rfl ?_
          refine v_getf 68 dX4_choose_68 fl_X4_30 mPut_o rfl ?_
          refine v_iload_n 71 dX4_choose_71 rfl rfl ?_
          refine m_ild 72 10 dX4_choose_72 hds (vp_in_nI (N := 14) (by omega) (by decide)) ?_
          rw [ew0]
          refine m_call 73 [.int (nI 0), .int _] dX4_choose_73 cv_X4_114 (ct_stk (w := 0) hds hF hF2 (by decide) hA) (fun r h' hq' => ?_)
          obtain ⟨g1, rfl, rfl, hg1⟩ := hq'
          refine v_if_ne (tgt := 90) 76 dX4_choose_76 (by decide) (fun c76 => ?_) (fun c76 => ?_)
          · refine v_iconst (v := 1) 90 dX4_choose_90 (by decide) ?_
            refine v_goto (tgt := 95) 91 dX4_choose_91 (by decide) ?_
            refine v_ist4 95 dX4_choose_95 ?_
            first
              | (rw [if_pos (bI_n c76)]; exact ch_t1 hds hF hF2 hg1 hb (fun f' => ⟨rfl, f', rfl⟩))
              | (rw [if_neg (by rw [bI_z c76]; decide)]; exact ch_t1 hds hF hF2 hg2 hb (fun f' => ⟨rfl, f', rfl⟩))
          · refine v_aload_n 79 dX4_choose_79 rfl rfl ?_
            refine v_iconst (v := 0) 80 dX4_choose_80 (by decide) ?_
            refine v_sipush (v := 277) 81 dX4_choose_81 (by decide) ?_
            refine m_call 84 [.int (nI 0), .int _] dX4_choose_84 cv_X4_114 (ct_stk (w := 0) hds hF hF2 (by decide) hg1) (fun r h' hq' => ?_)
            obtain ⟨g2, rfl, rfl, hg2⟩ := hq'
            refine v_if_eq (tgt := 94) 87 dX4_choose_87 (by decide) (fun c87 => ?_) (fun c87 => ?_)
            · refine v_iconst (v := 0) 94 dX4_choose_94 (by decide) ?_
              refine v_ist4 95 dX4_choose_95 ?_
              first
                | (rw [if_pos (bI_n c76)]; exact ch_t1 hds hF hF2 hg1 hb (fun f' => ⟨rfl, f', rfl⟩))
                | (rw [if_neg (by rw [bI_z c76]; decide)]; exact ch_t1 hds hF hF2 hg2 hb (fun f' => ⟨rfl, f', rfl⟩))
            · refine v_iconst (v := 1) 90 dX4_choose_90 (by decide) ?_
              refine v_goto (tgt := 95) 91 dX4_choose_91 (by decide) ?_
              refine v_ist4 95 dX4_choose_95 ?_
              first
                | (rw [if_pos (bI_n c76)]; exact ch_t1 hds hF hF2 hg1 hb (fun f' => ⟨rfl, f', rfl⟩))
                | (rw [if_neg (by rw [bI_z c76]; decide)]; exact ch_t1 hds hF hF2 hg2 hb (fun f' => ⟨rfl, f', rfl⟩))
        · refine v_iload_n 35 dX4_choose_35 rfl rfl ?_
          refine v_iret 36 dX4_choose_36 rfl rfl ?_
          refine ⟨?_, S.2 19, by rw [mA_self]⟩
          rw [chI, if_pos (Or.inr ((nI_eq (b := 0) (by omega) (by decide)).mp (hF.symm.trans c32))), hz]
    refine hpv _ ?_
    first
      | exact (if_pos c6).symm
      | exact (if_neg c6).symm
  · refine v_iconst (v := -1) 9 dX4_choose_9 (by decide) ?_
    refine v_goto (tgt := 23) 10 dX4_choose_10 (by decide) ?_
    have hpv : ∀ z : Int32, z = pinV S F b → V K mX4_choose 23 [some (.ref mo), some (.int (nI b)), none, none, none, none, none, none] [.int z] (mPut h mo ad S) 0 0 (fun r h' => r = some (.int (chI S F b)) ∧ ∃ f, h' = mPut h mo ad (mA S 19 f)) noX := by
      intro z hz
      refine v_ist2 23 dX4_choose_23 ?_
      refine v_iload_n 24 dX4_choose_24 rfl rfl ?_
      refine v_if_ge (tgt := 35) 25 dX4_choose_25 (by decide) (fun c25 => ?_) (fun c25 => ?_)
      · refine v_iload_n 35 dX4_choose_35 rfl rfl ?_
        refine v_iret 36 dX4_choose_36 rfl rfl ?_
        refine ⟨?_, S.2 19, by rw [mA_self]⟩
        rw [chI, if_pos (Or.inl (hz ▸ c25)), hz]
      · refine v_aload_n 28 dX4_choose_28 rfl rfl ?_
        refine v_getf 29 dX4_choose_29 fl_X4_66 mPut_o rfl ?_
        refine v_if_ne (tgt := 37) 32 dX4_choose_32 (by decide) (fun c32 => ?_) (fun c32 => ?_)
        · refine v_iconst (v := 0) 37 dX4_choose_37 (by decide) ?_
          refine v_ist3 38 dX4_choose_38 ?_
          refine V.eq (lp_chA (S := S) (F := F) (b := b) hds hF hF2 ?_ F 0 (by omega)) rfl rfl rfl (congrArg (mPut h mo ad) (by rw [skF_0, mA_self]))
          have hA : lRep (mA S 19 (skF (S.2 19) allL (fun _ => 0) 0 F)) allL F := by
            intro i hi
            rw [mA_s]
            exact if_pos hi
          have hc : chI S F b = finI S F (chL S F b) := by
            rw [chI, if_neg]
            rintro (q | q)
            · exact c25 (hz ▸ q)
            · exact c32 (by rw [hF, q]; rfl)
          rw [hc, chL]
          refine v_bipush (v := 7) 60 dX4_choose_60 (by decide) ?_
          refine v_iload_n 62 dX4_choose_62 rfl rfl ?_
          refine v_imul 63 dX4_choose_63 ?_
          refine v_ist3 64 dX4_choose_64 ?_
          rw [m7]
          refine v_aload_n 65 dX4_choose_65 rfl rfl ?_
          refine v_iconst (v := 0) 66 dX4_choose_66 (by decide) ?_
          refine v_aload_n 67 dX4_choose_67 rfl rfl ?_
          refine v_getf 68 dX4_choose_68 fl_X4_30 mPut_o rfl ?_
          refine v_iload_n 71 dX4_choose_71 rfl rfl ?_
          refine m_ild 72 10 dX4_choose_72 hds (vp_in_nI (N := 14) (by omega) (by decide)) ?_
          rw [ew0]
          refine m_call 73 [.int (nI 0), .int _] dX4_choose_73 cv_X4_114 (ct_stk (w := 0) hds hF hF2 (by decide) hA) (fun r h' hq' => ?_)
          obtain ⟨g1, rfl, rfl, hg1⟩ := hq'
          refine v_if_ne (tgt := 90) 76 dX4_choose_76 (by decide) (fun c76 => ?_) (fun c76 => ?_)
          · refine v_iconst (v := 1) 90 dX4_choose_90 (by decide) ?_
            refine v_goto (tgt := 95) 91 dX4_choose_91 (by decide) ?_
            refine v_ist4 95 dX4_choose_95 ?_
            first
              | (rw [if_pos (bI_n c76)]; exact ch_t1 hds hF hF2 hg1 hb (fun f' => ⟨rfl, f', rfl⟩))
              | (rw [if_neg (by rw [bI_z c76]; decide)]; exact ch_t1 hds hF hF2 hg2 hb (fun f' => ⟨rfl, f', rfl⟩))
          · refine v_aload_n 79 dX4_choose_79 rfl rfl ?_
            refine v_iconst (v := 0) 80 dX4_choose_80 (by decide) ?_
            refine v_sipush (v := 277) 81 dX4_choose_81 (by decide) ?_
            refine m_call 84 [.int (nI 0), .int _] dX4_choose_84 cv_X4_114 (ct_stk (w := 0) hds hF hF2 (by decide) hg1) (fun r h' hq' => ?_)
            obtain ⟨g2, rfl, rfl, hg2⟩ := hq'
            refine v_if_eq (tgt := 94) 87 dX4_choose_87 (by decide) (fun c87 => ?_) (fun c87 => ?_)
            · refine v_iconst (v := 0) 94 dX4_choose_94 (by decide) ?_
              refine v_ist4 95 dX4_choose_95 ?_
              first
                | (rw [if_pos (bI_n c76)]; exact ch_t1 hds hF hF2 hg1 hb (fun f' => ⟨rfl, f', rfl⟩))
                | (rw [if_neg (by rw [bI_z c76]; decide)]; exact ch_t1 hds hF hF2 hg2 hb (fun f' => ⟨rfl, f', rfl⟩))
            · refine v_iconst (v := 1) 90 dX4_choose_90 (by decide) ?_
              refine v_goto (tgt := 95) 91 dX4_choose_91 (by decide) ?_
              refine v_ist4 95 dX4_choose_95 ?_
              first
                | (rw [if_pos (bI_n c76)]; exact ch_t1 hds hF hF2 hg1 hb (fun f' => ⟨rfl, f', rfl⟩))
                | (rw [if_neg (by rw [bI_z c76]; decide)]; exact ch_t1 hds hF hF2 hg2 hb (fun f' => ⟨rfl, f', rfl⟩))
        · refine v_iload_n 35 dX4_choose_35 rfl rfl ?_
          refine v_iret 36 dX4_choose_36 rfl rfl ?_
          refine ⟨?_, S.2 19, by rw [mA_self]⟩
          rw [chI, if_pos (Or.inr ((nI_eq (b := 0) (by omega) (by decide)).mp (hF.symm.trans c32))), hz]
    refine hpv _ ?_
    first
      | exact (if_pos c6).symm
      | exact (if_neg c6).symm

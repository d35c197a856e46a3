def cpF (f : Nat → Int32) (a : Nat) (B : Nat → Int32) (k : Nat) : Nat → Int32 := fun j => if a ≤ j ∧ j < a + k then B (j - a) else f j
theorem cpF_0 (f : Nat → Int32) (a : Nat) (B : Nat → Int32) : cpF f a B 0 = f := by
  funext j; unfold cpF; rw [if_neg (by omega)]
theorem cpF_s (f : Nat → Int32) (a : Nat) (B : Nat → Int32) (k : Nat) : upd (cpF f a B k) (a + k) (B k) = cpF f a B (k + 1) := by
  funext j
  unfold upd cpF
  by_cases hj : j = a + k
  · subst hj; rw [if_pos rfl, if_pos (by omega), Nat.add_sub_cancel_left]
  · rw [if_neg hj]
    by_cases h1 : a ≤ j ∧ j < a + k
    · rw [if_pos h1, if_pos (by omega)]
    · rw [if_neg h1, if_neg (by omega)]
def byN (S : MS) (k : Nat) : Int32 := (byM S k).toInt8.toInt32
theorem byN_nar (S : MS) (k : Nat) : vp_nar .byte (byN S k) = byN S k := by
  show ((byM S k).toInt8.toInt32).toInt8.toInt32 = (byM S k).toInt8.toInt32
  rw [Int8.toInt8_toInt32]
theorem byN_congr {S S' : MS} (h15 : S'.2 15 = S.2 15) (h17 : S'.1 17 = S.1 17) (h18 : S'.2 18 = S.2 18) : byN S' = byN S := by
  funext k; unfold byN byM; rw [h15, h17, h18]
def ldG (S : MS) (N : Nat) : GL := (fun j => if j = 0 then S.1 12 else if j = 1 then S.1 13 else S.2 15 (j - 2), (List.range N).map (byN S))
theorem ldG_congr {S S' : MS} (N : Nat) (h12 : S'.1 12 = S.1 12) (h13 : S'.1 13 = S.1 13) (h15 : S'.2 15 = S.2 15) (h17 : S'.1 17 = S.1 17) (h18 : S'.2 18 = S.2 18) : ldG S' N = ldG S N := by
  unfold ldG; rw [byN_congr h15 h17 h18, h12, h13, h15]
def ldS (S : MS) (G U N : Nat) : MS := mI (mI (mA (mA S 6 (cpF (upd (upd (S.2 6) (7 * G) (S.1 12)) (7 * G + 1) (S.1 13)) (7 * G + 2) (S.2 15) 5)) 8 (cpF (S.2 8) U (byN S) N)) 5 (nI (G + 1))) 7 (nI (U + N))
def ldInv (S : MS) (N : Nat) : Prop := ∃ W D : Nat, S.2 15 2 = nI W ∧ S.2 15 3 = nI D ∧ W ≤ 128 ∧ D ≤ 128 ∧ N = D * ((W + 7) / 8) ∧ S.1 16 = nI N
theorem ldInv_congr {S S' : MS} {N : Nat} (h : ldInv S N) (h15 : S'.2 15 = S.2 15) (h16 : S'.1 16 = S.1 16) : ldInv S' N := by
  unfold ldInv; rw [h15, h16]; exact h
theorem ldInv_le {S : MS} {N : Nat} (h : ldInv S N) : N ≤ 2048 := by
  obtain ⟨W, D, -, -, h3, h4, h5, -⟩ := h
  have : (W + 7) / 8 ≤ 16 := by omega
  calc N = D * ((W + 7) / 8) := h5
    _ ≤ 128 * 16 := Nat.mul_le_mul h4 this
    _ = 2048 := rfl
theorem glOk_ld {S : MS} {N : Nat} (h : ldInv S N) : glOk (ldG S N) := by
  obtain ⟨W, D, h1, h2, h3, h4, h5, -⟩ := h
  refine ⟨W, D, h1, h2, h3, h4, by simp [ldG, h5], ?_⟩
  intro b hb
  obtain ⟨k, -, rfl⟩ := List.mem_map.mp hb
  exact byN_nar S k
theorem gRep_ld {S : MS} {L : List GL} {N : Nat} (hR : gRep S L) (hI : ldInv S N) (hL : L.length < 256) (hB : (flatB L).length + N ≤ 16384) : gRep (ldS S L.length (flatB L).length N) (L ++ [ldG S N]) := by
  obtain ⟨h1, h2, h3, h4, h5, h6, h7⟩ := hR
  have hfl : flatB (L ++ [ldG S N]) = flatB L ++ (List.range N).map (byN S) := by
    rw [flatB_app, flatB_cons]; simp [flatB, ldG]
  refine ⟨?_, by simp; omega, ?_, ?_, ?_, by rw [hfl]; simp; omega, ?_⟩
  · show nI (L.length + 1) = _
    simp
  · intro k q hk j hj
    show cpF (upd (upd (S.2 6) (7 * L.length) (S.1 12)) (7 * L.length + 1) (S.1 13)) (7 * L.length + 2) (S.2 15) 5 (7 * k + j) = q.1 j
    have hkl : k < (L ++ [ldG S N]).length := (List.getElem?_eq_some_iff.mp hk).1
    rw [List.length_append, List.length_singleton] at hkl
    unfold cpF upd
    by_cases hc : k = L.length
    · subst hc
      rw [List.getElem?_append_right (Nat.le_refl _), Nat.sub_self] at hk
      have hq : q = ldG S N := by simpa using hk.symm
      subst hq
      show _ = if j = 0 then S.1 12 else if j = 1 then S.1 13 else S.2 15 (j - 2)
      by_cases hj0 : j = 0
      · subst hj0; rw [if_neg (by omega), if_neg (by omega), if_pos (Nat.add_zero _)]; rfl
      · by_cases hj1 : j = 1
        · subst hj1; rw [if_neg (by omega), if_pos rfl, if_neg (by decide), if_pos rfl]
        · rw [if_pos (by omega), if_neg hj0, if_neg hj1]
          rw [show 7 * L.length + j - (7 * L.length + 2) = j - 2 by omega]
    · rw [if_neg (by omega), if_neg (by omega), if_neg (by omega)]
      rw [List.getElem?_append_left (by omega)] at hk
      exact h3 k q hk j hj
  · intro q hq
    rcases List.mem_append.mp hq with hq | hq
    · exact h4 q hq
    · rw [List.mem_singleton.mp hq]; exact glOk_ld hI
  · show nI ((flatB L).length + N) = _
    rw [hfl]; simp
  · intro j v hj
    show cpF (S.2 8) (flatB L).length (byN S) N j = v
    rw [hfl] at hj
    unfold cpF
    by_cases hc : j < (flatB L).length
    · rw [if_neg (by omega)]
      rw [List.getElem?_append_left hc] at hj
      exact h7 j v hj
    · rw [List.getElem?_append_right (by omega)] at hj
      have hjl := (List.getElem?_eq_some_iff.mp hj).1
      rw [List.length_map, List.length_range] at hjl
      rw [if_pos (by omega)]
      rw [List.getElem?_map, List.getElem?_range hjl] at hj
      simpa using hj
def onG (x : Int32) (g : GL) : Bool := decide (g.1 0 = x)
theorem cnt_take {S : MS} {L : List GL} (hR : gRep S L) (x : Int32) : ∀ k : Nat, k ≤ L.length → cntG (S.2 6) x k = nI ((L.take k).filter (onG x)).length
  | 0, _ => by rw [List.take_zero]; rfl
  | k + 1, hk => by
    have hk' : L[k]? = some (L[k]'(by omega)) := List.getElem?_eq_getElem (by omega)
    have e0 : S.2 6 (7 * k) = (L[k]'(by omega)).1 0 := hR.2.2.1 k _ hk' 0 (by decide)
    rw [cntG, cnt_take hR x k (by omega), e0, show L.take (k + 1) = L.take k ++ [L[k]'(by omega)] from by rw [List.take_succ, hk']; rfl, List.filter_append, List.length_append, ← nI_add]
    congr 1
    by_cases hx : (L[k]'(by omega)).1 0 = x
    · rw [if_pos hx, List.filter_cons_of_pos (by exact decide_eq_true hx)]; rfl
    · rw [if_neg hx, List.filter_cons_of_neg (by simpa [onG] using hx)]; rfl
theorem cnt_list {S : MS} {L : List GL} (hR : gRep S L) (x : Int32) : cntG (S.2 6) x L.length = nI (L.filter (onG x)).length := by
  rw [cnt_take hR x L.length (Nat.le_refl _), List.take_length]
def loadR (S : MS) (FL : List FN) (L : List GL) (N : Nat) (S' : MS) (r : Int32) : Prop :=
  (S.1 14 = 0 ∧ r = 0 ∧ S' = mI S 0 1) ∨
  (¬ S.1 14 = 0 ∧ (256 < (L.filter (offGC (S.1 12) (S.1 13))).length + 1 ∨ 16384 < (flatB (L.filter (offGC (S.1 12) (S.1 13)))).length + N) ∧ r = 0 ∧ S' = mI (mI S 14 0) 0 2) ∨
  (¬ S.1 14 = 0 ∧ ¬ (256 < (L.filter (offGC (S.1 12) (S.1 13))).length + 1 ∨ 16384 < (flatB (L.filter (offGC (S.1 12) (S.1 13)))).length + N) ∧ S'.1 0 = 0 ∧ S'.1 14 = 0 ∧ dSame S S' ∧ fRep S' FL ∧
    gRep S' (L.filter (offGC (S.1 12) (S.1 13)) ++ [ldG S N]) ∧ r = nI ((L.filter (offGC (S.1 12) (S.1 13)) ++ [ldG S N]).filter (onG (S.1 12))).length)
theorem dSame_ld (S : MS) (G U N : Nat) : dSame S (ldS S G U N) := by
  refine ⟨fun k h0 h1 h5 h7 h14 => ?_, fun k h2 h3 h4 h6 h8 => ?_⟩
  · show (if k = 7 then _ else if k = 5 then _ else S.1 k) = S.1 k
    rw [if_neg h7, if_neg h5]
  · show (if k = 8 then _ else if k = 6 then _ else S.2 k) = S.2 k
    rw [if_neg h8, if_neg h6]
theorem mI_c (S : MS) {j k : Nat} (a b : Int32) (h : j ≠ k) : mI (mI S j a) k b = mI (mI S k b) j a := by
  refine Prod.ext (funext fun i => ?_) rfl
  show (if i = k then b else if i = j then a else S.1 i) = (if i = j then a else if i = k then b else S.1 i)
  by_cases h1 : i = k
  · subst h1; rw [if_pos rfl, if_neg (fun e => h e.symm), if_pos rfl]
  · rw [if_neg h1, if_neg h1]
set_option maxHeartbeats 4000000 in
set_option maxRecDepth 100000 in
theorem lp_load1 {K : KT} {h : AH} {mo : Nat} {ad : Nat → Nat} {S : MS} {f : Nat → Int32} {G : Nat} {z1 z2 z3 : Int32} {Q : QR} {X : QX} (hds : mDis mo ad) (hG : G < 256)
    (kk : V K mX4_load 190 [some (.ref mo), some (.int z1), some (.int z2), some (.int z3), some (.int (nI (7 * G))), some (.int (nI 5))] [] (mPut h mo ad (mA S 6 (cpF f (7 * G + 2) (S.2 15) 5))) 0 0 Q X) : ∀ t k : Nat, k + t = 5 → V K mX4_load 159 [some (.ref mo), some (.int z1), some (.int z2), some (.int z3), some (.int (nI (7 * G))), some (.int (nI k))] [] (mPut h mo ad (mA S 6 (cpF f (7 * G + 2) (S.2 15) k))) 0 0 Q X := by
  intro t
  induction t with
  | zero =>
    intro k hk
    have hk5 : k = 5 := by omega
    subst hk5
    refine v_iload 159 dX4_load_159 rfl ?_
    refine v_iconst (v := 5) 161 dX4_load_161 (by decide) ?_
    refine v_icmp_ge (tgt := 190) 162 dX4_load_162 (by decide) (fun c162 => ?_) (fun c162 => absurd (by decide) c162)
    exact kk
  | succ t ih =>
    intro k hk
    have e1 : nI (7 * G) + 2 + nI k = nI (7 * G + 2 + k) := by rw [show (2 : Int32) = nI 2 from rfl, nI_add, nI_add]
    refine v_iload 159 dX4_load_159 rfl ?_
    refine v_iconst (v := 5) 161 dX4_load_161 (by decide) ?_
    refine v_icmp_ge (tgt := 190) 162 dX4_load_162 (by decide) (fun c162 => absurd c162 (nI_ge (b := 5) (by omega) (by decide))) (fun c162 => ?_)
    refine v_aload_n 165 dX4_load_165 rfl rfl ?_
    refine v_getf 166 dX4_load_166 fl_X4_20 mPut_o rfl ?_
    refine v_iload 169 dX4_load_169 rfl ?_
    refine v_iconst (v := 2) 171 dX4_load_171 (by decide) ?_
    refine v_iadd 172 dX4_load_172 ?_
    refine v_iload 173 dX4_load_173 rfl ?_
    refine v_iadd 175 dX4_load_175 ?_
    refine v_aload_n 176 dX4_load_176 rfl rfl ?_
    refine v_getf 177 dX4_load_177 fl_X4_36 mPut_o rfl ?_
    refine v_iload 180 dX4_load_180 rfl ?_
    refine m_ild 182 15 dX4_load_182 hds (vp_in_nI (N := 5) (by omega) (by decide)) ?_
    refine m_ist 183 6 dX4_load_183 hds (by rw [e1]; exact vp_in_nI (N := 1799) (by omega) (by decide)) ?_
    refine v_inc5 (y := 1) 184 dX4_load_184 (by decide) ?_
    refine v_goto (tgt := 159) 187 dX4_load_187 (by decide) ?_
    refine V.eq (ih (k + 1) (by omega)) rfl (by rw [← nI_1]) rfl (congrArg (mPut h mo ad) ?_)
    rw [mA_mA, mA_s, e1, nI_clamp (by omega), nI_clamp (by omega), show (mA S 6 (cpF f (7 * G + 2) (S.2 15) k)).2 15 = S.2 15 from rfl, cpF_s]
set_option maxHeartbeats 4000000 in
set_option maxRecDepth 100000 in
theorem lp_load2 {K : KT} {h : AH} {mo : Nat} {ad : Nat → Nat} {S : MS} {g : Nat → Int32} {G U N : Nat} {z1 z2 z3 : Int32} {Q : QR} {X : QX} (hds : mDis mo ad) (hU : S.1 7 = nI U) (hN : S.1 16 = nI N) (hUN : U + N ≤ 16384) (hN2 : N ≤ 2048)
    (kk : V K mX4_load 227 [some (.ref mo), some (.int z1), some (.int z2), some (.int z3), some (.int (nI (7 * G))), some (.int (nI N))] [] (mPut h mo ad (mA S 8 (cpF g U (byN S) N))) 0 0 Q X) : ∀ t k : Nat, k + t = N → V K mX4_load 193 [some (.ref mo), some (.int z1), some (.int z2), some (.int z3), some (.int (nI (7 * G))), some (.int (nI k))] [] (mPut h mo ad (mA S 8 (cpF g U (byN S) k))) 0 0 Q X := by
  intro t
  induction t with
  | zero =>
    intro k hk
    have hkN : k = N := by omega
    subst hkN
    refine v_iload 193 dX4_load_193 rfl ?_
    refine v_aload_n 195 dX4_load_195 rfl rfl ?_
    refine v_getf 196 dX4_load_196 fl_X4_92 mPut_o rfl ?_
    refine v_icmp_ge (tgt := 227) 199 dX4_load_199 (by decide) (fun c199 => ?_) (fun c199 => absurd (by rw [mA_1, hN]; exact nI_le (Nat.le_refl _) (by omega)) c199)
    exact kk
  | succ t ih =>
    intro k hk
    have e1 : S.1 7 + nI k = nI (U + k) := by rw [hU, nI_add]
    refine v_iload 193 dX4_load_193 rfl ?_
    refine v_aload_n 195 dX4_load_195 rfl rfl ?_
    refine v_getf 196 dX4_load_196 fl_X4_92 mPut_o rfl ?_
    refine v_icmp_ge (tgt := 227) 199 dX4_load_199 (by decide) (fun c199 => absurd c199 (by rw [mA_1, hN]; exact nI_ge (by omega) (by omega))) (fun c199 => ?_)
    refine v_aload_n 202 dX4_load_202 rfl rfl ?_
    refine v_getf 203 dX4_load_203 fl_X4_23 mPut_o rfl ?_
    refine v_aload_n 206 dX4_load_206 rfl rfl ?_
    refine v_getf 207 dX4_load_207 fl_X4_79 mPut_o rfl ?_
    refine v_iload 210 dX4_load_210 rfl ?_
    refine v_iadd 212 dX4_load_212 ?_
    refine v_aload_n 213 dX4_load_213 rfl rfl ?_
    refine v_iload 214 dX4_load_214 rfl ?_
    refine m_call 216 [.int (nI k)] dX4_load_216 cv_X4_104 (ct_byteOf hds (by omega)) (fun r h' hq' => ?_)
    obtain ⟨rfl, rfl⟩ := hq'
    refine v_i2b 219 dX4_load_219 rfl ?_
    refine m_bst 220 8 dX4_load_220 hds (by rw [mA_1, e1]; exact vp_in_nI (N := 20000) (by omega) (by decide)) ?_
    refine v_inc5 (y := 1) 221 dX4_load_221 (by decide) ?_
    refine v_goto (tgt := 193) 224 dX4_load_224 (by decide) ?_
    refine V.eq (ih (k + 1) (by omega)) rfl (by rw [← nI_1]) rfl (congrArg (mPut h mo ad) ?_)
    rw [mA_mA, mA_s, mA_1, e1, nI_clamp (by omega), show vp_nar .byte (byM (mA S 8 (cpF g U (byN S) k)) k).toInt8.toInt32 = byN S k from byN_nar S k, cpF_s]
set_option maxHeartbeats 4000000 in
set_option maxRecDepth 100000 in
theorem ld_tail {K : KT} {h : AH} {mo : Nat} {ad : Nat → Nat} {S : MS} {L : List GL} {N : Nat} {z1 z2 z3 : Int32} {Q : QR} {X : QX} (hds : mDis mo ad) (hR : gRep S L) (hI : ldInv S N) (hL : L.length < 256) (hB : (flatB L).length + N ≤ 16384)
    (hq : Q (some (.int (nI ((L ++ [ldG S N]).filter (onG (S.1 12))).length))) (mPut h mo ad (ldS S L.length (flatB L).length N))) : V K mX4_load 123 [some (.ref mo), some (.int z1), some (.int z2), some (.int z3), none, none] [] (mPut h mo ad S) 0 0 Q X := by
  have hN2 := ldInv_le hI
  have hN : S.1 16 = nI N := hI.choose_spec.choose_spec.2.2.2.2.2
  have hRL := gRep_ld hR hI hL hB
  have e7 : (7 : Int32) * S.1 5 = nI (7 * L.length) := by rw [hR.1, m7]
  refine v_bipush (v := 7) 123 dX4_load_123 (by decide) ?_
  refine v_aload_n 125 dX4_load_125 rfl rfl ?_
  refine v_getf 126 dX4_load_126 fl_X4_73 mPut_o rfl ?_
  refine v_imul 129 dX4_load_129 ?_
  refine v_ist4 130 dX4_load_130 ?_
  rw [e7]
  refine v_aload_n 132 dX4_load_132 rfl rfl ?_
  refine v_getf 133 dX4_load_133 fl_X4_20 mPut_o rfl ?_
  refine v_iload 136 dX4_load_136 rfl ?_
  refine v_aload_n 138 dX4_load_138 rfl rfl ?_
  refine v_getf 139 dX4_load_139 fl_X4_55 mPut_o rfl ?_
  refine m_ist 142 6 dX4_load_142 hds (vp_in_nI (N := 1799) (by omega) (by decide)) ?_
  refine v_aload_n 143 dX4_load_143 rfl rfl ?_
  refine v_getf 144 dX4_load_144 fl_X4_20 mPut_o rfl ?_
  refine v_iload 147 dX4_load_147 rfl ?_
  refine v_iconst (v := 1) 149 dX4_load_149 (by decide) ?_
  refine v_iadd 150 dX4_load_150 ?_
  refine v_aload_n 151 dX4_load_151 rfl rfl ?_
  refine v_getf 152 dX4_load_152 fl_X4_52 mPut_o rfl ?_
  refine m_ist 155 6 dX4_load_155 hds (by rw [nI_1]; exact vp_in_nI (N := 1799) (by omega) (by decide)) ?_
  refine v_iconst (v := 0) 156 dX4_load_156 (by decide) ?_
  refine v_ist5 157 dX4_load_157 ?_
  refine V.eq (lp_load1 (S := S) (f := upd (upd (S.2 6) (7 * L.length) (S.1 12)) (7 * L.length + 1) (S.1 13)) (G := L.length) hds hL ?_ 5 0 (by omega)) rfl rfl rfl (congrArg (mPut h mo ad) (by rw [cpF_0, nI_1, nI_clamp (by omega), nI_clamp (by omega), mA_mA]; rfl))
  refine v_iconst (v := 0) 190 dX4_load_190 (by decide) ?_
  refine v_ist5 191 dX4_load_191 ?_
  refine V.eq (lp_load2 (S := mA S 6 (cpF (upd (upd (S.2 6) (7 * L.length) (S.1 12)) (7 * L.length + 1) (S.1 13)) (7 * L.length + 2) (S.2 15) 5)) (g := S.2 8) (G := L.length) (U := (flatB L).length) (N := N) hds hR.2.2.2.2.1 hN hB hN2 ?_ N 0 (by omega)) rfl rfl rfl (congrArg (mPut h mo ad) (by rw [cpF_0]; exact mA_self _ 8))
  have eU : S.1 7 + S.1 16 = nI ((flatB L).length + N) := by rw [hR.2.2.2.2.1, hN, nI_add]
  have eG : S.1 5 + 1 = nI (L.length + 1) := by rw [hR.1, nI_1]
  have eS : mI (mI (mA (mA S 6 (cpF (upd (upd (S.2 6) (7 * L.length) (S.1 12)) (7 * L.length + 1) (S.1 13)) (7 * L.length + 2) (S.2 15) 5)) 8 (cpF (S.2 8) (flatB L).length (byN S) N)) 5 (S.1 5 + 1)) 7 (S.1 7 + S.1 16) = ldS S L.length (flatB L).length N := by
    rw [eU, eG]; rfl
  refine v_aload_n 227 dX4_load_227 rfl rfl ?_
  refine v_dup 228 dX4_load_228 rfl ?_
  refine v_getf 229 dX4_load_229 fl_X4_73 mPut_o rfl ?_
  refine v_iconst (v := 1) 232 dX4_load_232 (by decide) ?_
  refine v_iadd 233 dX4_load_233 ?_
  refine m_put 234 dX4_load_234 fl_X4_73 ?_
  refine v_aload_n 237 dX4_load_237 rfl rfl ?_
  refine v_dup 238 dX4_load_238 rfl ?_
  refine v_getf 239 dX4_load_239 fl_X4_79 mPut_o rfl ?_
  refine v_aload_n 242 dX4_load_242 rfl rfl ?_
  refine v_getf 243 dX4_load_243 fl_X4_92 mPut_o rfl ?_
  refine v_iadd 246 dX4_load_246 ?_
  refine m_put 247 dX4_load_247 fl_X4_79 ?_
  refine V.eq (h := mPut h mo ad (ldS S L.length (flatB L).length N)) ?_ rfl rfl rfl (congrArg (mPut h mo ad) eS.symm)
  refine v_aload_n 250 dX4_load_250 rfl rfl ?_
  refine v_aload_n 251 dX4_load_251 rfl rfl ?_
  refine v_getf 252 dX4_load_252 fl_X4_55 mPut_o rfl ?_
  refine m_call 255 [.int (S.1 12)] dX4_load_255 cv_X4_107 (ct_glyphsOf (G := L.length + 1) hds rfl (by omega)) (fun r h' hq' => ?_)
  obtain ⟨rfl, rfl⟩ := hq'
  refine v_iret 258 dX4_load_258 rfl rfl ?_
  have hc := cnt_list hRL (S.1 12)
  rw [List.length_append, List.length_singleton] at hc
  rw [hc]
  exact hq
set_option maxHeartbeats 4000000 in
set_option maxRecDepth 100000 in
theorem ct_load {K : KT} {h : AH} {mo : Nat} {ad : Nat → Nat} {S : MS} {L : List GL} {FL : List FN} {N : Nat} (hds : mDis mo ad) (hR : gRep S L) (hFR : fRep S FL) (hnd : gNd L) (hI : ¬ S.1 14 = 0 → ldInv S N) : Ct K mX4_load 0 0 [.ref mo] (mPut h mo ad S) (fun r h' => ∃ (b : Int32) (S' : MS), r = some (.int b) ∧ h' = mPut h mo ad S' ∧ loadR S FL L N S' b) noX := by
  refine ct_of (by decide +kernel) rfl (Nat.le_of_ble_eq_true rfl) rfl ?_
  refine v_aload_n 0 dX4_load_0 rfl rfl ?_
  refine v_aload_n 1 dX4_load_1 rfl rfl ?_
  refine v_getf 2 dX4_load_2 fl_X4_58 mPut_o rfl ?_
  refine v_if_eq (tgt := 12) 5 dX4_load_5 (by decide) (fun c5 => ?_) (fun c5 => ?_)
  · refine v_iconst (v := 1) 12 dX4_load_12 (by decide) ?_
    refine m_put 13 dX4_load_13 fl_X4_45 ?_
    refine v_aload_n 16 dX4_load_16 rfl rfl ?_
    refine v_getf 17 dX4_load_17 fl_X4_45 mPut_o rfl ?_
    refine v_if_le (tgt := 25) 20 dX4_load_20 (by decide) (fun c20 => absurd c20 (by rw [mI_s]; decide)) (fun c20 => ?_)
    refine v_iconst (v := 0) 23 dX4_load_23 (by decide) ?_
    refine v_iret 24 dX4_load_24 rfl rfl ?_
    exact ⟨_, _, rfl, rfl, Or.inl ⟨c5, rfl, rfl⟩⟩
  · refine v_iconst (v := 0) 8 dX4_load_8 (by decide) ?_
    refine v_goto (tgt := 13) 9 dX4_load_9 (by decide) ?_
    refine m_put 13 dX4_load_13 fl_X4_45 ?_
    refine v_aload_n 16 dX4_load_16 rfl rfl ?_
    refine v_getf 17 dX4_load_17 fl_X4_45 mPut_o rfl ?_
    refine v_if_le (tgt := 25) 20 dX4_load_20 (by decide) (fun c20 => ?_) (fun c20 => absurd (by rw [mI_s]; decide) c20)
    refine v_aload_n 25 dX4_load_25 rfl rfl ?_
    refine v_iconst (v := 0) 26 dX4_load_26 (by decide) ?_
    refine m_put 27 dX4_load_27 fl_X4_58 ?_
    refine v_aload_n 30 dX4_load_30 rfl rfl ?_
    refine v_aload_n 31 dX4_load_31 rfl rfl ?_
    refine v_getf 32 dX4_load_32 fl_X4_55 mPut_o rfl ?_
    refine v_aload_n 35 dX4_load_35 rfl rfl ?_
    refine v_getf 36 dX4_load_36 fl_X4_52 mPut_o rfl ?_
    have hI' := hI c5
    have hN2 := ldInv_le hI'
    have hN : S.1 16 = nI N := hI'.choose_spec.choose_spec.2.2.2.2.2
    refine m_call 39 [.int (S.1 12), .int (S.1 13)] dX4_load_39 cv_X4_100 (ct_glyphOf (S := mI (mI S 0 0) 14 0) (G := L.length) hds hR.1 hR.2.1) (fun r h' hq' => ?_)
    obtain ⟨rfl, rfl⟩ := hq'
    show V _ _ 42 _ [.int (lastG (S.2 6) (S.1 12) (S.1 13) L.length)] _ _ _ _ _
    rcases gIx hR hnd (S.1 12) (S.1 13) with ⟨k, e, hk, hx, hix⟩ | ⟨hno, hix⟩
    · rw [hix]
      have hkl : k < L.length := (List.getElem?_eq_some_iff.mp hk).1
      have hL := hR.2.1
      have hU := hR.2.2.2.2.2.1
      have hsz : (flatB L).length = (flatB (L.eraseIdx k)).length + e.2.length := by
        obtain ⟨L1, L2, g, rfl, rfl, hg⟩ := split_at hkl
        have hge : g = e := by rw [hk] at hg; exact (Option.some.inj hg).symm
        subst hge
        rw [List.eraseIdx_append_of_length_le (Nat.le_refl _), Nat.sub_self, List.eraseIdx_cons_zero, flatB_split, flatB_app]
        simp; omega
      have hlen : L.length = (L.eraseIdx k).length + 1 := by rw [List.length_eraseIdx_of_lt hkl]; omega
      rw [erase_offGC hnd hk, hx.1, hx.2] at hsz hlen
      have eA : S.1 5 + 0 = nI L.length := by rw [hR.1, show (0 : Int32) = nI 0 from rfl, nI_add]; rfl
      have eR : S.1 7 + S.1 16 - gB S k = nI ((flatB (L.filter (offGC (S.1 12) (S.1 13)))).length + N) := by
        rw [hR.2.2.2.2.1, hN, gRep_B hR hk, nI_add, pk_sub (by omega)]; congr 1; omega
      refine v_ist1 42 dX4_load_42 ?_
      refine v_aload_n 43 dX4_load_43 rfl rfl ?_
      refine v_getf 44 dX4_load_44 fl_X4_73 mPut_o rfl ?_
      refine v_iload_n 47 dX4_load_47 rfl rfl ?_
      refine v_if_ge (tgt := 55) 48 dX4_load_48 (by decide) (fun c48 => ?_) (fun c48 => absurd (nI_pos' (by omega)) c48)
      refine v_iconst (v := 0) 55 dX4_load_55 (by decide) ?_
      refine v_iadd 56 dX4_load_56 ?_
      refine v_ist2 57 dX4_load_57 ?_
      refine v_aload_n 58 dX4_load_58 rfl rfl ?_
      refine v_getf 59 dX4_load_59 fl_X4_79 mPut_o rfl ?_
      refine v_aload_n 62 dX4_load_62 rfl rfl ?_
      refine v_getf 63 dX4_load_63 fl_X4_92 mPut_o rfl ?_
      refine v_iadd 66 dX4_load_66 ?_
      refine v_iload_n 67 dX4_load_67 rfl rfl ?_
      refine v_if_ge (tgt := 75) 68 dX4_load_68 (by decide) (fun c68 => ?_) (fun c68 => absurd (nI_pos' (by omega)) c68)
      refine v_aload_n 75 dX4_load_75 rfl rfl ?_
      refine v_iload_n 76 dX4_load_76 rfl rfl ?_
      refine m_call 77 [.int (nI k)] dX4_load_77 cv_X4_69 (ct_bytesN hds (by omega)) (fun r h' hq' => ?_)
      obtain ⟨rfl, rfl⟩ := hq'
      refine v_isub 80 dX4_load_80 ?_
      refine v_ist3 81 dX4_load_81 ?_
      rw [show (mI (mI S 0 0) 14 0).1 5 + 0 = nI L.length from eA, show (mI (mI S 0 0) 14 0).1 7 + (mI (mI S 0 0) 14 0).1 16 - gB (mI (mI S 0 0) 14 0) k = _ from eR]
      refine v_aload_n 82 dX4_load_82 rfl rfl ?_
      refine v_iload_n 83 dX4_load_83 rfl rfl ?_
      refine v_sipush (v := 256) 84 dX4_load_84 (by decide) ?_
      refine v_icmp_gt (tgt := 97) 87 dX4_load_87 (by decide) (fun c87 => absurd c87 (nI_nlt (a := 256) (by omega) (by decide))) (fun c87 => ?_)
      refine v_iload_n 90 dX4_load_90 rfl rfl ?_
      refine v_sipush (v := 16384) 91 dX4_load_91 (by decide) ?_
      refine v_icmp_le (tgt := 101) 94 dX4_load_94 (by decide) (fun c94 => ?_) (fun c94 => ?_)
      · refine v_iconst (v := 0) 101 dX4_load_101 (by decide) ?_
        refine m_put 102 dX4_load_102 fl_X4_45 ?_
        refine v_aload_n 105 dX4_load_105 rfl rfl ?_
        refine v_getf 106 dX4_load_106 fl_X4_45 mPut_o rfl ?_
        refine v_if_le (tgt := 114) 109 dX4_load_109 (by decide) (fun c109 => ?_) (fun c109 => absurd (by rw [mI_s]; decide) c109)
        refine v_iload_n 114 dX4_load_114 rfl rfl ?_
        refine v_if_lt (tgt := 123) 115 dX4_load_115 (by decide) (fun c115 => absurd c115 (nI_pos (by omega))) (fun c115 => ?_)
        refine v_aload_n 118 dX4_load_118 rfl rfl ?_
        refine v_iload_n 119 dX4_load_119 rfl rfl ?_
        refine m_call 120 [.int (nI k)] dX4_load_120 cv_X4_82 (ct_goG hds (gRep_congr hR rfl rfl rfl rfl) hkl) (fun r h' hq' => ?_)
        obtain ⟨rfl, S2, rfl, hs2, hG2⟩ := hq'
        rw [erase_offGC hnd hk, hx.1, hx.2] at hG2
        have hnb : ¬ 16384 < (flatB (L.filter (offGC (S.1 12) (S.1 13)))).length + N := by
          have := (nI_leI (b := 16384) (by omega) (by decide)).mp c94
          omega
        have eg : ldG S2 N = ldG S N := ldG_congr N (hs2.1 12 (by decide) (by decide)) (hs2.1 13 (by decide) (by decide)) (hs2.2 15 (by decide) (by decide)) (hs2.1 17 (by decide) (by decide)) (hs2.2 18 (by decide) (by decide))
        have hI2 : ldInv S2 N := ldInv_congr hI' (hs2.2 15 (by decide) (by decide)) (hs2.1 16 (by decide) (by decide))
        have hGL := gRep_ld hG2 hI2 (by omega) (by omega)
        have e12 : S2.1 12 = S.1 12 := hs2.1 12 (by decide) (by decide)
        rw [eg] at hGL
        refine ld_tail hds hG2 hI2 (by omega) (by omega) ⟨_, _, rfl, rfl, Or.inr (Or.inr ⟨c5, by omega, hs2.1 0 (by decide) (by decide), hs2.1 14 (by decide) (by decide), ?_, ?_, hGL, by rw [eg, e12]⟩)⟩
        · exact dSame_tr (dSame_tr (dSame_tr (dSame_tr (dSame_0 S 0) (dSame_14 _ 0)) (dSame_0 _ 0)) (dSame_f (fSame_g hs2))) (dSame_ld _ _ _ _)
        · exact fRep_congr hFR (hs2.1 1 (by decide) (by decide)) (hs2.2 2 (by decide) (by decide)) (hs2.2 3 (by decide) (by decide)) (hs2.2 4 (by decide) (by decide))
      · refine v_iconst (v := 2) 97 dX4_load_97 (by decide) ?_
        refine v_goto (tgt := 102) 98 dX4_load_98 (by decide) ?_
        refine m_put 102 dX4_load_102 fl_X4_45 ?_
        refine v_aload_n 105 dX4_load_105 rfl rfl ?_
        refine v_getf 106 dX4_load_106 fl_X4_45 mPut_o rfl ?_
        refine v_if_le (tgt := 114) 109 dX4_load_109 (by decide) (fun c109 => absurd c109 (by rw [mI_s]; decide)) (fun c109 => ?_)
        refine v_iconst (v := 0) 112 dX4_load_112 (by decide) ?_
        refine v_iret 113 dX4_load_113 rfl rfl ?_
        refine ⟨_, _, rfl, rfl, Or.inr (Or.inl ⟨c5, Or.inr ?_, rfl, ?_⟩)⟩
        · exact Nat.lt_of_not_le (fun hh => c94 (nI_le hh (by decide)))
        · rw [mI_c (mI S 0 0) 0 2 (by decide), mI_mI, mI_c S 2 0 (by decide)]
    · rw [hix]
      have hL := hR.2.1
      have hU := hR.2.2.2.2.2.1
      have eA : S.1 5 + 1 = nI (L.length + 1) := by rw [hR.1, nI_1]
      have eR : S.1 7 + S.1 16 - 0 = nI ((flatB L).length + N) := by
        rw [hR.2.2.2.2.1, hN, nI_add, show (0 : Int32) = nI 0 from rfl, pk_sub (by omega)]; rfl
      refine v_ist1 42 dX4_load_42 ?_
      refine v_aload_n 43 dX4_load_43 rfl rfl ?_
      refine v_getf 44 dX4_load_44 fl_X4_73 mPut_o rfl ?_
      refine v_iload_n 47 dX4_load_47 rfl rfl ?_
      refine v_if_ge (tgt := 55) 48 dX4_load_48 (by decide) (fun c48 => absurd c48 (by decide)) (fun c48 => ?_)
      refine v_iconst (v := 1) 51 dX4_load_51 (by decide) ?_
      refine v_goto (tgt := 56) 52 dX4_load_52 (by decide) ?_
      refine v_iadd 56 dX4_load_56 ?_
      refine v_ist2 57 dX4_load_57 ?_
      refine v_aload_n 58 dX4_load_58 rfl rfl ?_
      refine v_getf 59 dX4_load_59 fl_X4_79 mPut_o rfl ?_
      refine v_aload_n 62 dX4_load_62 rfl rfl ?_
      refine v_getf 63 dX4_load_63 fl_X4_92 mPut_o rfl ?_
      refine v_iadd 66 dX4_load_66 ?_
      refine v_iload_n 67 dX4_load_67 rfl rfl ?_
      refine v_if_ge (tgt := 75) 68 dX4_load_68 (by decide) (fun c68 => absurd c68 (by decide)) (fun c68 => ?_)
      refine v_iconst (v := 0) 71 dX4_load_71 (by decide) ?_
      refine v_goto (tgt := 80) 72 dX4_load_72 (by decide) ?_
      refine v_isub 80 dX4_load_80 ?_
      refine v_ist3 81 dX4_load_81 ?_
      rw [show (mI (mI S 0 0) 14 0).1 5 + 1 = nI (L.length + 1) from eA, show (mI (mI S 0 0) 14 0).1 7 + (mI (mI S 0 0) 14 0).1 16 - 0 = _ from eR]
      refine v_aload_n 82 dX4_load_82 rfl rfl ?_
      refine v_iload_n 83 dX4_load_83 rfl rfl ?_
      refine v_sipush (v := 256) 84 dX4_load_84 (by decide) ?_
      refine v_icmp_gt (tgt := 97) 87 dX4_load_87 (by decide) (fun c87 => ?_) (fun c87 => ?_)
      · refine v_iconst (v := 2) 97 dX4_load_97 (by decide) ?_
        refine v_goto (tgt := 102) 98 dX4_load_98 (by decide) ?_
        refine m_put 102 dX4_load_102 fl_X4_45 ?_
        refine v_aload_n 105 dX4_load_105 rfl rfl ?_
        refine v_getf 106 dX4_load_106 fl_X4_45 mPut_o rfl ?_
        refine v_if_le (tgt := 114) 109 dX4_load_109 (by decide) (fun c109 => absurd c109 (by rw [mI_s]; decide)) (fun c109 => ?_)
        refine v_iconst (v := 0) 112 dX4_load_112 (by decide) ?_
        refine v_iret 113 dX4_load_113 rfl rfl ?_
        refine ⟨_, _, rfl, rfl, Or.inr (Or.inl ⟨c5, ?_, rfl, ?_⟩)⟩
        · rw [offGC_no hno]
          first
            | exact Or.inl (Nat.lt_of_not_le (fun hh => nI_nlt (a := 256) hh (by decide) c87))
            | exact Or.inr (Nat.lt_of_not_le (fun hh => c94 (nI_le hh (by decide))))
        · rw [mI_c (mI S 0 0) 0 2 (by decide), mI_mI, mI_c S 2 0 (by decide)]
      · refine v_iload_n 90 dX4_load_90 rfl rfl ?_
        refine v_sipush (v := 16384) 91 dX4_load_91 (by decide) ?_
        refine v_icmp_le (tgt := 101) 94 dX4_load_94 (by decide) (fun c94 => ?_) (fun c94 => ?_)
        · refine v_iconst (v := 0) 101 dX4_load_101 (by decide) ?_
          refine m_put 102 dX4_load_102 fl_X4_45 ?_
          refine v_aload_n 105 dX4_load_105 rfl rfl ?_
          refine v_getf 106 dX4_load_106 fl_X4_45 mPut_o rfl ?_
          refine v_if_le (tgt := 114) 109 dX4_load_109 (by decide) (fun c109 => ?_) (fun c109 => absurd (by rw [mI_s]; decide) c109)
          refine v_iload_n 114 dX4_load_114 rfl rfl ?_
          refine v_if_lt (tgt := 123) 115 dX4_load_115 (by decide) (fun c115 => ?_) (fun c115 => absurd (by decide) c115)
          have hnb : ¬ 16384 < (flatB L).length + N := by
            have := (nI_leI (b := 16384) (by omega) (by decide)).mp c94
            omega
          have hna : ¬ 256 < L.length + 1 := fun hh => c87 (nI_lt hh (by omega))
          refine ld_tail hds (gRep_congr hR rfl rfl rfl rfl) (ldInv_congr hI' rfl rfl) (by omega) (by omega) ⟨_, _, rfl, rfl, Or.inr (Or.inr ⟨c5, by rw [offGC_no hno]; omega, rfl, rfl, ?_, fRep_congr hFR rfl rfl rfl rfl, ?_, ?_⟩)⟩
          · exact dSame_tr (dSame_tr (dSame_tr (dSame_0 S 0) (dSame_14 _ 0)) (dSame_0 _ 0)) (dSame_ld _ _ _ _)
          · rw [offGC_no hno]
            exact gRep_ld (S := mI (mI (mI S 0 0) 14 0) 0 0) (gRep_congr hR rfl rfl rfl rfl) (ldInv_congr hI' rfl rfl) (by omega) (by omega)
          · rw [offGC_no hno]; rfl
        · refine v_iconst (v := 2) 97 dX4_load_97 (by decide) ?_
          refine v_goto (tgt := 102) 98 dX4_load_98 (by decide) ?_
          refine m_put 102 dX4_load_102 fl_X4_45 ?_
          refine v_aload_n 105 dX4_load_105 rfl rfl ?_
          refine v_getf 106 dX4_load_106 fl_X4_45 mPut_o rfl ?_
          refine v_if_le (tgt := 114) 109 dX4_load_109 (by decide) (fun c109 => absurd c109 (by rw [mI_s]; decide)) (fun c109 => ?_)
          refine v_iconst (v := 0) 112 dX4_load_112 (by decide) ?_
          refine v_iret 113 dX4_load_113 rfl rfl ?_
          refine ⟨_, _, rfl, rfl, Or.inr (Or.inl ⟨c5, ?_, rfl, ?_⟩)⟩
          · rw [offGC_no hno]
            first
              | exact Or.inl (Nat.lt_of_not_le (fun hh => nI_nlt (a := 256) hh (by decide) c87))
              | exact Or.inr (Nat.lt_of_not_le (fun hh => c94 (nI_le hh (by decide))))
          · rw [mI_c (mI S 0 0) 0 2 (by decide), mI_mI, mI_c S 2 0 (by decide)]

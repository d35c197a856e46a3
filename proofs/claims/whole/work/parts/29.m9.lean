/-! ===== the glyphs of the reference as a list: seven ints (ID, CODE, LEFT, TOP, WIDTH, DEPTH, STEP) and the bytes ===== -/
abbrev GL : Type := (Nat → Int32) × List Int32
def glOk (g : GL) : Prop := ∃ W D : Nat, g.1 4 = nI W ∧ g.1 5 = nI D ∧ W ≤ 128 ∧ D ≤ 128 ∧ g.2.length = D * ((W + 7) / 8) ∧ ∀ b ∈ g.2, vp_nar .byte b = b
def flatB (L : List GL) : List Int32 := L.flatMap (fun g => g.2)
theorem flatB_app (L L' : List GL) : flatB (L ++ L') = flatB L ++ flatB L' := List.flatMap_append
theorem flatB_cons (g : GL) (L : List GL) : flatB (g :: L) = g.2 ++ flatB L := List.flatMap_cons
def gRep (S : MS) (L : List GL) : Prop :=
  S.1 5 = nI L.length ∧ L.length ≤ 256 ∧ (∀ (k : Nat) (g : GL), L[k]? = some g → ∀ j, j < 7 → S.2 6 (7 * k + j) = g.1 j) ∧ (∀ g ∈ L, glOk g) ∧
  S.1 7 = nI (flatB L).length ∧ (flatB L).length ≤ 16384 ∧ ∀ (j : Nat) (v : Int32), (flatB L)[j]? = some v → S.2 8 j = v
theorem gB_size {g : GL} (h : glOk g) : g.1 5 * ((g.1 4 + 7) / 8) = nI g.2.length := by
  obtain ⟨W, D, h1, h2, h3, h4, h5, -⟩ := h
  rw [h1, h2, h5, show (7 : Int32) = nI 7 from rfl, show (8 : Int32) = nI 8 from rfl, nI_add, pk_div (by omega) (by decide) (by decide), pk_mul]
theorem glOk_len {g : GL} (h : glOk g) : g.2.length ≤ 2048 := by
  obtain ⟨W, D, h1, h2, h3, h4, h5, -⟩ := h
  rw [h5]
  have : (W + 7) / 8 ≤ 16 := by omega
  calc D * ((W + 7) / 8) ≤ 128 * 16 := Nat.mul_le_mul h4 this
    _ = 2048 := rfl
theorem gRep_B {S : MS} {L : List GL} (hR : gRep S L) {k : Nat} {g : GL} (hk : L[k]? = some g) : gB S k = nI g.2.length := by
  have hg : g ∈ L := List.mem_of_getElem? hk
  unfold gB
  rw [hR.2.2.1 k g hk 5 (by decide), hR.2.2.1 k g hk 4 (by decide)]
  exact gB_size (hR.2.2.2.1 g hg)
theorem gRep_St {S : MS} {L : List GL} (hR : gRep S L) : ∀ k : Nat, k ≤ L.length → gSt S k = nI (flatB (L.take k)).length
  | 0, _ => rfl
  | k + 1, hk => by
    have hk' : L[k]? = some (L[k]'(by omega)) := List.getElem?_eq_getElem (by omega)
    rw [gSt, gRep_St hR k (by omega), gRep_B hR hk', nI_add]
    congr 1
    rw [List.take_succ, flatB_app, hk', List.length_append]
    simp [flatB]
theorem flatB_split (L1 L2 : List GL) (g : GL) : flatB (L1 ++ g :: L2) = flatB L1 ++ (g.2 ++ flatB L2) := by rw [flatB_app, flatB_cons]
theorem gRep_byte {S : MS} {L : List GL} (hR : gRep S L) {j : Nat} (hj : j < (flatB L).length) : vp_nar .byte (S.2 8 j) = S.2 8 j := by
  have hj' : (flatB L)[j]? = some ((flatB L)[j]) := List.getElem?_eq_getElem hj
  rw [hR.2.2.2.2.2.2 j _ hj']
  have hm : (flatB L)[j] ∈ flatB L := List.getElem_mem hj
  obtain ⟨g, hg, hb⟩ := List.mem_flatMap.mp hm
  obtain ⟨W, D, -, -, -, -, -, h6⟩ := hR.2.2.2.1 g hg
  exact h6 _ hb
/-- glyph k goes -/
theorem gRep_go {S : MS} {L1 L2 : List GL} {g : GL} (hR : gRep S (L1 ++ g :: L2)) : gRep (goG S L1.length (flatB L1).length g.2.length (flatB (L1 ++ g :: L2)).length (L1 ++ g :: L2).length) (L1 ++ L2) := by
  obtain ⟨h1, h2, h3, h4, h5, h6, h7⟩ := hR
  have hlen : (L1 ++ g :: L2).length = L1.length + L2.length + 1 := by simp; omega
  have hlen' : (L1 ++ L2).length = L1.length + L2.length := by simp
  have hfl : (flatB (L1 ++ g :: L2)).length = (flatB L1).length + g.2.length + (flatB L2).length := by rw [flatB_split]; simp; omega
  have hfl' : (flatB (L1 ++ L2)).length = (flatB L1).length + (flatB L2).length := by rw [flatB_app]; simp
  refine ⟨?_, by omega, ?_, ?_, ?_, by omega, ?_⟩
  · show nI ((L1 ++ g :: L2).length - 1) = _
    rw [hlen, hlen']; rfl
  · intro k q hk j hj
    show shL (S.2 6) (7 * L1.length) 7 (7 * ((L1 ++ g :: L2).length - 1) - 7 * L1.length) (7 * k + j) = q.1 j
    have hkl : k < (L1 ++ L2).length := (List.getElem?_eq_some_iff.mp hk).1
    unfold shL
    by_cases hc : k < L1.length
    · rw [if_neg (by omega)]
      refine h3 k q ?_ j hj
      rw [List.getElem?_append_left hc] at hk ⊢
      exact hk
    · rw [if_pos (by omega)]
      rw [List.getElem?_append_right (by omega)] at hk
      rw [show 7 * k + j + 7 = 7 * (k + 1) + j by omega]
      refine h3 (k + 1) q ?_ j hj
      rw [List.getElem?_append_right (by omega), show k + 1 - L1.length = (k - L1.length) + 1 by omega, List.getElem?_cons_succ]
      exact hk
  · intro q hq
    refine h4 q ?_
    rcases List.mem_append.mp hq with hq | hq
    · exact List.mem_append_left _ hq
    · exact List.mem_append_right _ (List.mem_cons_of_mem _ hq)
  · show nI ((flatB (L1 ++ g :: L2)).length - g.2.length) = _
    rw [hfl, hfl']
    congr 1; omega
  · intro j v hj
    show shL (S.2 8) (flatB L1).length g.2.length ((flatB (L1 ++ g :: L2)).length - (flatB L1).length - g.2.length) j = v
    have hjl : j < (flatB (L1 ++ L2)).length := (List.getElem?_eq_some_iff.mp hj).1
    rw [flatB_app] at hj
    unfold shL
    by_cases hc : j < (flatB L1).length
    · rw [if_neg (by omega)]
      refine h7 j v ?_
      rw [flatB_split, List.getElem?_append_left hc]
      rw [List.getElem?_append_left hc] at hj
      exact hj
    · rw [if_pos (by omega)]
      rw [List.getElem?_append_right (by omega)] at hj
      refine h7 (j + g.2.length) v ?_
      rw [flatB_split, List.getElem?_append_right (by omega), List.getElem?_append_right (by omega)]
      rw [← hj]
      congr 1; omega
/-- what goGlyph leaves as it was -/
def gSame (S S' : MS) : Prop := (∀ k, k ≠ 5 → k ≠ 7 → S'.1 k = S.1 k) ∧ ∀ k, k ≠ 6 → k ≠ 8 → S'.2 k = S.2 k
theorem gSame_rf (S : MS) : gSame S S := ⟨fun _ _ _ => rfl, fun _ _ _ => rfl⟩
theorem gSame_tr {A B C : MS} (h1 : gSame A B) (h2 : gSame B C) : gSame A C := ⟨fun k a b => (h2.1 k a b).trans (h1.1 k a b), fun k a b => (h2.2 k a b).trans (h1.2 k a b)⟩
theorem gSame_go (S : MS) (g a n U G : Nat) : gSame S (goG S g a n U G) := by
  refine ⟨fun k h5 h7 => ?_, fun k h6 h8 => ?_⟩
  · show (if k = 5 then _ else if k = 7 then _ else S.1 k) = S.1 k
    rw [if_neg h5, if_neg h7]
  · show (if k = 6 then _ else if k = 8 then _ else S.2 k) = S.2 k
    rw [if_neg h6, if_neg h8]
theorem split_at {L : List GL} {k : Nat} (hk : k < L.length) : ∃ (L1 L2 : List GL) (g : GL), L = L1 ++ g :: L2 ∧ L1.length = k ∧ L[k]? = some g := by
  refine ⟨L.take k, L.drop (k + 1), L[k], ?_, by simp; omega, List.getElem?_eq_getElem hk⟩
  rw [← List.drop_eq_getElem_cons hk, List.take_append_drop]
set_option maxHeartbeats 4000000 in
set_option maxRecDepth 100000 in
theorem ct_goG {K : KT} {h : AH} {mo : Nat} {ad : Nat → Nat} {S : MS} {L : List GL} {k : Nat} (hds : mDis mo ad) (hR : gRep S L) (hk : k < L.length) : Ct K mX4_goGlyph 0 0 [.ref mo, .int (nI k)] (mPut h mo ad S) (fun r h' => r = none ∧ ∃ S', h' = mPut h mo ad S' ∧ gSame S S' ∧ gRep S' (L.eraseIdx k)) noX := by
  obtain ⟨L1, L2, g, rfl, rfl, hg⟩ := split_at hk
  have hlen : (L1 ++ g :: L2).length = L1.length + L2.length + 1 := by simp; omega
  have hfl : (flatB (L1 ++ g :: L2)).length = (flatB L1).length + g.2.length + (flatB L2).length := by rw [flatB_split]; simp; omega
  have hst : gSt S L1.length = nI (flatB L1).length := by
    rw [gRep_St hR L1.length (by omega), List.take_left]
  refine (ct_goGlyph (g := L1.length) (a := (flatB L1).length) (n := g.2.length) (U := (flatB (L1 ++ g :: L2)).length) (G := (L1 ++ g :: L2).length) hds hR.2.2.2.2.1 (by have := hR.2.2.2.2.2.1; omega) (by omega) (fun j hj => gRep_byte hR hj) hR.1 hR.2.1 hk hst (gRep_B hR hg)).mono ?_ (fun _ _ z => z)
  rintro r h' ⟨rfl, rfl⟩
  refine ⟨rfl, _, rfl, gSame_go _ _ _ _ _ _, ?_⟩
  rw [List.eraseIdx_append_of_length_le (Nat.le_refl _), Nat.sub_self, List.eraseIdx_cons_zero]
  exact gRep_go hR

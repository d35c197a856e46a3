/-! ===== the fonts of the reference as a list: ID, for good (0 or 1), seven attributes ===== -/
abbrev FN : Type := Int32 × Int32 × (Nat → Int32)
def fRep (S : MS) (L : List FN) : Prop :=
  S.1 1 = nI L.length ∧ L.length ≤ 32 ∧ ∀ (k : Nat) (e : FN), L[k]? = some e → S.2 2 k = e.1 ∧ S.2 4 k = e.2.1 ∧ (e.2.1 = 0 ∨ e.2.1 = 1) ∧ ∀ w, w < 7 → S.2 3 (7 * k + w) = e.2.2 w
theorem gRep_congr {S S' : MS} {L : List GL} (h : gRep S L) (h5 : S'.1 5 = S.1 5) (h7 : S'.1 7 = S.1 7) (h6 : S'.2 6 = S.2 6) (h8 : S'.2 8 = S.2 8) : gRep S' L := by
  unfold gRep; rw [h5, h7, h6, h8]; exact h
theorem fRep_congr {S S' : MS} {L : List FN} (h : fRep S L) (h1 : S'.1 1 = S.1 1) (h2 : S'.2 2 = S.2 2) (h3 : S'.2 3 = S.2 3) (h4 : S'.2 4 = S.2 4) : fRep S' L := by
  unfold fRep; rw [h1, h2, h3, h4]; exact h
/-- what goFont leaves as it was -/
def fSame (S S' : MS) : Prop := (∀ k, k ≠ 1 → k ≠ 5 → k ≠ 7 → S'.1 k = S.1 k) ∧ ∀ k, k ≠ 2 → k ≠ 3 → k ≠ 4 → k ≠ 6 → k ≠ 8 → S'.2 k = S.2 k
theorem fSame_rf (S : MS) : fSame S S := ⟨fun _ _ _ _ => rfl, fun _ _ _ _ _ _ => rfl⟩
theorem fSame_tr {A B C : MS} (h1 : fSame A B) (h2 : fSame B C) : fSame A C := ⟨fun k a b c => (h2.1 k a b c).trans (h1.1 k a b c), fun k a b c d e => (h2.2 k a b c d e).trans (h1.2 k a b c d e)⟩
theorem fSame_g {A B : MS} (h : gSame A B) : fSame A B := ⟨fun k _ b c => h.1 k b c, fun k _ _ _ d e => h.2 k d e⟩
def goFS (S : MS) (f F : Nat) : MS := st3 (mI S 1 (nI F)) (shL (S.2 2) f 1 (F - f)) (shL (S.2 4) f 1 (F - f)) (shL (S.2 3) (7 * f) 7 (7 * (F - f)))
theorem fSame_go (S : MS) (f F : Nat) : fSame S (goFS S f F) := by
  refine ⟨fun k h1 _ _ => ?_, fun k h2 h3 h4 _ _ => ?_⟩
  · show (if k = 1 then _ else S.1 k) = S.1 k
    rw [if_neg h1]
  · show (if k = 3 then _ else if k = 4 then _ else if k = 2 then _ else S.2 k) = S.2 k
    rw [if_neg h3, if_neg h4, if_neg h2]
theorem splitF {L : List FN} {k : Nat} (hk : k < L.length) : ∃ (L1 L2 : List FN) (g : FN), L = L1 ++ g :: L2 ∧ L1.length = k ∧ L[k]? = some g := by
  refine ⟨L.take k, L.drop (k + 1), L[k], ?_, by simp; omega, List.getElem?_eq_getElem hk⟩
  rw [← List.drop_eq_getElem_cons hk, List.take_append_drop]
theorem fRep_go {S : MS} {L1 L2 : List FN} {g : FN} (hR : fRep S (L1 ++ g :: L2)) : fRep (goFS S L1.length (L1.length + L2.length)) (L1 ++ L2) := by
  obtain ⟨h1, h2, h3⟩ := hR
  have hlen : (L1 ++ g :: L2).length = L1.length + L2.length + 1 := by simp; omega
  have hlen' : (L1 ++ L2).length = L1.length + L2.length := by simp
  refine ⟨?_, by omega, ?_⟩
  · show nI (L1.length + L2.length) = _
    rw [hlen']
  · intro k q hk
    have hkl : k < (L1 ++ L2).length := (List.getElem?_eq_some_iff.mp hk).1
    show shL (S.2 2) L1.length 1 (L1.length + L2.length - L1.length) k = q.1 ∧ shL (S.2 4) L1.length 1 (L1.length + L2.length - L1.length) k = q.2.1 ∧ (q.2.1 = 0 ∨ q.2.1 = 1) ∧ ∀ w, w < 7 → shL (S.2 3) (7 * L1.length) 7 (7 * (L1.length + L2.length - L1.length)) (7 * k + w) = q.2.2 w
    unfold shL
    by_cases hc : k < L1.length
    · rw [if_neg (by omega), if_neg (by omega)]
      have hk' : (L1 ++ g :: L2)[k]? = some q := by
        rw [List.getElem?_append_left hc] at hk ⊢
        exact hk
      obtain ⟨a, b, c, d⟩ := h3 k q hk'
      refine ⟨a, b, c, fun w hw => ?_⟩
      rw [if_neg (by omega)]
      exact d w hw
    · rw [if_pos (by omega), if_pos (by omega)]
      have hk' : (L1 ++ g :: L2)[k + 1]? = some q := by
        rw [List.getElem?_append_right (by omega)] at hk
        rw [List.getElem?_append_right (by omega), show k + 1 - L1.length = (k - L1.length) + 1 by omega, List.getElem?_cons_succ]
        exact hk
      obtain ⟨a, b, c, d⟩ := h3 (k + 1) q hk'
      refine ⟨a, b, c, fun w hw => ?_⟩
      rw [if_pos (by omega), show 7 * k + w + 7 = 7 * (k + 1) + w by omega]
      exact d w hw
theorem nar_b01 {x : Int32} (h : x = 0 ∨ x = 1) : vp_nar .boolean x = x := by
  rcases h with rfl | rfl <;> decide
theorem fRep_nar {S : MS} {L : List FN} (hR : fRep S L) {k : Nat} (hk : k < L.length) : vp_nar .boolean (S.2 4 k) = S.2 4 k := by
  obtain ⟨-, b, c, -⟩ := hR.2.2 k _ (List.getElem?_eq_getElem hk)
  rw [b]; exact nar_b01 c
set_option maxHeartbeats 4000000 in
set_option maxRecDepth 100000 in
theorem ct_goFont {K : KT} {h : AH} {mo : Nat} {ad : Nat → Nat} {S : MS} {L : List GL} {FL : List FN} {f : Nat} {e : FN} (hds : mDis mo ad) (hR : gRep S L) (hFR : fRep S FL) (he : FL[f]? = some e) : Ct K mX4_goFont 0 0 [.ref mo, .int (nI f)] (mPut h mo ad S) (fun r h' => r = none ∧ ∃ S', h' = mPut h mo ad S' ∧ fSame S S' ∧ gRep S' (L.filter (offG e.1)) ∧ fRep S' (FL.eraseIdx f)) noX := by
  have hf : f < FL.length := (List.getElem?_eq_some_iff.mp he).1
  have hF32 := hFR.2.1
  have hid : S.2 2 f = e.1 := (hFR.2.2 f e he).1
  refine ct_of (by decide +kernel) rfl (Nat.le_of_ble_eq_true rfl) rfl ?_
  refine v_aload_n 0 dX4_goFont_0 rfl rfl ?_
  refine v_getf 1 dX4_goFont_1 fl_X4_73 mPut_o rfl ?_
  refine v_iconst (v := 1) 4 dX4_goFont_4 (by decide) ?_
  refine v_isub 5 dX4_goFont_5 ?_
  refine v_ist2 6 dX4_goFont_6 ?_
  refine V.eq (lp_goF1 (S := S) (L := L) (f := f) (F := FL.length) hds hR.2.1 (by omega) ?_ L.length S (Nat.le_refl _) (by rw [List.take_length, List.drop_length, List.filter_nil, List.append_nil]; exact hR) (gSame_rf S)) rfl (by rw [hR.1, kv_sub]; rfl) rfl rfl
  intro S1 hR1 hs1
  rw [hid] at hR1
  have hFR1 : fRep S1 FL := fRep_congr hFR (hs1.1 1 (by decide) (by decide)) (hs1.2 2 (by decide) (by decide)) (hs1.2 3 (by decide) (by decide)) (hs1.2 4 (by decide) (by decide))
  have hn1 : S1.1 1 - 1 = nI (FL.length - 1) := by rw [hFR1.1, show (1 : Int32) = nI 1 from rfl, pk_sub (by omega)]
  refine v_aload_n 40 dX4_goFont_40 rfl rfl ?_
  refine v_dup 41 dX4_goFont_41 rfl ?_
  refine v_getf 42 dX4_goFont_42 fl_X4_66 mPut_o rfl ?_
  refine v_iconst (v := 1) 45 dX4_goFont_45 (by decide) ?_
  refine v_isub 46 dX4_goFont_46 ?_
  refine m_put 47 dX4_goFont_47 fl_X4_66 ?_
  refine v_iload_n 50 dX4_goFont_50 rfl rfl ?_
  refine v_ist2 51 dX4_goFont_51 ?_
  rw [hn1]
  refine V.eq (lp_goF2 (S := mI S1 1 (nI (FL.length - 1))) (I := S1.2 2) (P := S1.2 4) (A := S1.2 3) (f := f) (F := FL.length - 1) hds (mI_s _ _ _) (by omega) (by omega) (fun j hj => fRep_nar hFR1 (by omega)) ?_ (FL.length - 1 - f) 0 none (by omega) rfl) rfl rfl rfl (congrArg (mPut h mo ad) (by rw [shL_0, shL_0, shL_0]; exact st3_id (mI S1 1 (nI (FL.length - 1)))))
  obtain ⟨L1, L2, g, rfl, rfl, hg⟩ := splitF hf
  have hlen : (L1 ++ g :: L2).length - 1 = L1.length + L2.length := by simp
  refine ⟨rfl, goFS S1 L1.length (L1.length + L2.length), ?_, fSame_tr (fSame_g hs1) (fSame_go _ _ _), ?_, ?_⟩
  · rw [hlen]; rfl
  · exact gRep_congr hR1 rfl rfl rfl rfl
  · rw [List.eraseIdx_append_of_length_le (Nat.le_refl _), Nat.sub_self, List.eraseIdx_cons_zero]
    exact fRep_go hFR1

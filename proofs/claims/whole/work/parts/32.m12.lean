def offF (x : Int32) (e : FN) : Bool := decide (¬ e.1 = x)
theorem lastIx_none {f : Nat → Int32} {x : Int32} : ∀ n : Nat, (∀ k, k < n → ¬ f k = x) → lastIx f x n = -1
  | 0, _ => rfl
  | n + 1, h => by rw [lastIx, if_neg (h n (by omega)), lastIx_none n (fun k hk => h k (by omega))]
theorem lastIx_some {f : Nat → Int32} {x : Int32} {k : Nat} : ∀ n : Nat, k < n → f k = x → (∀ j, j < n → f j = x → j = k) → lastIx f x n = nI k
  | 0, h, _, _ => absurd h (by omega)
  | n + 1, hk, hf, hu => by
    rw [lastIx]
    by_cases hn : f n = x
    · rw [if_pos hn, hu n (by omega) hn]
    · rw [if_neg hn]
      refine lastIx_some n ?_ hf (fun j hj => hu j (by omega))
      by_cases hkn : k = n
      · exact absurd (hkn ▸ hf) hn
      · omega
def fNd (L : List FN) : Prop := ∀ (j k : Nat) (a b : FN), L[j]? = some a → L[k]? = some b → a.1 = b.1 → j = k
theorem fIx {S : MS} {L : List FN} (hR : fRep S L) (hnd : fNd L) (x : Int32) : (∃ (k : Nat) (e : FN), L[k]? = some e ∧ e.1 = x ∧ lastIx (S.2 2) x L.length = nI k) ∨ ((∀ e ∈ L, ¬ e.1 = x) ∧ lastIx (S.2 2) x L.length = -1) := by
  by_cases hc : ∃ e ∈ L, e.1 = x
  · obtain ⟨e, he, hx⟩ := hc
    obtain ⟨k, hk⟩ := List.mem_iff_getElem?.mp he
    refine Or.inl ⟨k, e, hk, hx, lastIx_some _ (List.getElem?_eq_some_iff.mp hk).1 (by rw [(hR.2.2 k e hk).1, hx]) ?_⟩
    intro j hj hj2
    have hj' : L[j]? = some L[j] := List.getElem?_eq_getElem hj
    rw [(hR.2.2 j _ hj').1] at hj2
    exact hnd j k _ e hj' hk (hj2.trans hx.symm)
  · refine Or.inr ⟨fun e he hx => hc ⟨e, he, hx⟩, lastIx_none _ (fun k hk hx => hc ⟨L[k], List.getElem_mem hk, ?_⟩)⟩
    rw [(hR.2.2 k _ (List.getElem?_eq_getElem hk)).1] at hx
    exact hx
theorem fNd_tl {a : FN} {L : List FN} (h : fNd (a :: L)) : fNd L := fun j k p q hp hq hpq => by
  have := h (j + 1) (k + 1) p q (by rw [List.getElem?_cons_succ]; exact hp) (by rw [List.getElem?_cons_succ]; exact hq) hpq
  omega
theorem fNd_hd {a : FN} {L : List FN} (h : fNd (a :: L)) : ∀ e ∈ L, ¬ e.1 = a.1 := fun e he hx => by
  obtain ⟨k, hk⟩ := List.mem_iff_getElem?.mp he
  have := h (k + 1) 0 e a (by rw [List.getElem?_cons_succ]; exact hk) rfl hx
  omega
theorem fNd_cons {a : FN} {L : List FN} (h : fNd L) (ha : ∀ e ∈ L, ¬ e.1 = a.1) : fNd (a :: L) := by
  intro j k p q hp hq hpq
  cases j with
  | zero =>
    cases k with
    | zero => rfl
    | succ k =>
      rw [List.getElem?_cons_succ] at hq
      have hpa : p = a := by simpa using hp.symm
      exact absurd (hpa ▸ hpq.symm) (ha q (List.mem_of_getElem? hq))
  | succ j =>
    rw [List.getElem?_cons_succ] at hp
    cases k with
    | zero =>
      have hqa : q = a := by simpa using hq.symm
      exact absurd (hqa ▸ hpq) (ha p (List.mem_of_getElem? hp))
    | succ k =>
      rw [List.getElem?_cons_succ] at hq
      rw [h j k p q hp hq hpq]
theorem fNd_filter {p : FN → Bool} : ∀ {L : List FN}, fNd L → fNd (L.filter p)
  | [], h => h
  | a :: L, h => by
    rw [List.filter_cons]
    split
    · exact fNd_cons (fNd_filter (fNd_tl h)) (fun e he => fNd_hd h e (List.mem_filter.mp he).1)
    · exact fNd_filter (fNd_tl h)
theorem erase_offF : ∀ {L : List FN} {k : Nat} {e : FN}, fNd L → L[k]? = some e → L.eraseIdx k = L.filter (offF e.1)
  | [], _, _, _, h => by simp at h
  | a :: L, 0, e, hnd, h => by
    have hae : e = a := by simpa using h.symm
    subst hae
    rw [List.eraseIdx_cons_zero, List.filter_cons_of_neg (by simp [offF])]
    refine (List.filter_eq_self.mpr (fun q hq => ?_)).symm
    exact decide_eq_true (fNd_hd hnd q hq)
  | a :: L, k + 1, e, hnd, h => by
    rw [List.getElem?_cons_succ] at h
    have hne : ¬ a.1 = e.1 := fun hx => fNd_hd hnd e (List.mem_of_getElem? h) hx.symm
    rw [List.eraseIdx_cons_succ, List.filter_cons_of_pos (by exact decide_eq_true hne), erase_offF (fNd_tl hnd) h]
def acp (A d : Nat → Int32) (F k : Nat) : Nat → Int32 := fun j => if 7 * F ≤ j ∧ j < 7 * F + k then d (j - 7 * F) else A j
theorem acp_0 (A d : Nat → Int32) (F : Nat) : acp A d F 0 = A := by
  funext j; unfold acp; rw [if_neg (by omega)]
theorem acp_s (A d : Nat → Int32) (F k : Nat) : upd (acp A d F k) (7 * F + k) (d k) = acp A d F (k + 1) := by
  funext j
  unfold upd acp
  by_cases hj : j = 7 * F + k
  · subst hj; rw [if_pos rfl, if_pos (by omega)]; congr 1; omega
  · rw [if_neg hj]
    by_cases h1 : 7 * F ≤ j ∧ j < 7 * F + k
    · rw [if_pos h1, if_pos (by omega)]
    · rw [if_neg h1, if_neg (by omega)]
def hdS (S : MS) (F : Nat) : MS := mI (mI (st3 S (upd (S.2 2) F (S.1 12)) (upd (S.2 4) F 0) (acp (S.2 3) (S.2 9) F 7)) 1 (nI (F + 1))) 14 0
theorem st3_of (S : MS) (a b : Nat → Int32) : mA (mA S 2 a) 4 b = st3 S a b (S.2 3) := (mA_self (mA (mA S 2 a) 4 b) 3).symm
theorem fRep_hd {S : MS} {L : List FN} (hR : fRep S L) (hl : L.length < 32) : fRep (hdS S L.length) (L ++ [(S.1 12, 0, S.2 9)]) := by
  obtain ⟨h1, h2, h3⟩ := hR
  refine ⟨?_, by simp; omega, ?_⟩
  · show nI (L.length + 1) = _
    simp
  · intro k q hk
    show upd (S.2 2) L.length (S.1 12) k = q.1 ∧ upd (S.2 4) L.length 0 k = q.2.1 ∧ (q.2.1 = 0 ∨ q.2.1 = 1) ∧ ∀ w, w < 7 → acp (S.2 3) (S.2 9) L.length 7 (7 * k + w) = q.2.2 w
    have hkl : k < (L ++ [(S.1 12, (0 : Int32), S.2 9)]).length := (List.getElem?_eq_some_iff.mp hk).1
    rw [List.length_append, List.length_singleton] at hkl
    unfold upd acp
    by_cases hc : k = L.length
    · subst hc
      rw [List.getElem?_append_right (Nat.le_refl _), Nat.sub_self] at hk
      have hq : q = (S.1 12, (0 : Int32), S.2 9) := by simpa using hk.symm
      subst hq
      rw [if_pos rfl, if_pos rfl]
      refine ⟨rfl, rfl, Or.inl rfl, fun w hw => ?_⟩
      rw [if_pos (by omega)]
      show S.2 9 (7 * L.length + w - 7 * L.length) = S.2 9 w
      rw [Nat.add_sub_cancel_left]
    · rw [if_neg hc, if_neg hc]
      rw [List.getElem?_append_left (by omega)] at hk
      obtain ⟨a, b, c, d⟩ := h3 k q hk
      refine ⟨a, b, c, fun w hw => ?_⟩
      rw [if_neg (by omega)]
      exact d w hw
/-- what header and drop leave as it was -/
def dSame (S S' : MS) : Prop := (∀ k, k ≠ 0 → k ≠ 1 → k ≠ 5 → k ≠ 7 → k ≠ 14 → S'.1 k = S.1 k) ∧ ∀ k, k ≠ 2 → k ≠ 3 → k ≠ 4 → k ≠ 6 → k ≠ 8 → S'.2 k = S.2 k
theorem dSame_tr {A B C : MS} (h1 : dSame A B) (h2 : dSame B C) : dSame A C := ⟨fun k a b c d e => (h2.1 k a b c d e).trans (h1.1 k a b c d e), fun k a b c d e => (h2.2 k a b c d e).trans (h1.2 k a b c d e)⟩
theorem dSame_f {A B : MS} (h : fSame A B) : dSame A B := ⟨fun k _ b c d _ => h.1 k b c d, h.2⟩
theorem dSame_0 (S : MS) (v : Int32) : dSame S (mI S 0 v) := ⟨fun k a _ _ _ _ => if_neg a, fun _ _ _ _ _ _ => rfl⟩
theorem dSame_14 (S : MS) (v : Int32) : dSame S (mI S 14 v) := ⟨fun k _ _ _ _ a => if_neg a, fun _ _ _ _ _ _ => rfl⟩
theorem dSame_hd (S : MS) (F : Nat) : dSame S (hdS S F) := by
  refine ⟨fun k h0 h1 _ _ h14 => ?_, fun k h2 h3 h4 _ _ => ?_⟩
  · show (if k = 14 then _ else if k = 1 then _ else S.1 k) = S.1 k
    rw [if_neg h14, if_neg h1]
  · show (if k = 3 then _ else if k = 4 then _ else if k = 2 then _ else S.2 k) = S.2 k
    rw [if_neg h3, if_neg h4, if_neg h2]
def glIn (L : List GL) (FL : List FN) : Prop := ∀ g ∈ L, ∃ e ∈ FL, e.1 = g.1 0
theorem filt_no {L : List GL} {FL : List FN} {x : Int32} (hg : glIn L FL) (hx : ∀ e ∈ FL, ¬ e.1 = x) : L.filter (offG x) = L :=
  List.filter_eq_self.mpr (fun g hm => by
    obtain ⟨e, he, hex⟩ := hg g hm
    exact decide_eq_true (fun hh => hx e he (hex.trans hh)))
theorem filtF_no {FL : List FN} {x : Int32} (hx : ∀ e ∈ FL, ¬ e.1 = x) : FL.filter (offF x) = FL :=
  List.filter_eq_self.mpr (fun e he => decide_eq_true (hx e he))
def headR (S : MS) (FL : List FN) (L : List GL) (S' : MS) (r : Int32) : Prop :=
  ((∀ e ∈ FL, ¬ e.1 = S.1 12) ∧ FL.length = 32 ∧ r = 0 ∧ S' = mI S 0 1) ∨
  (¬ ((∀ e ∈ FL, ¬ e.1 = S.1 12) ∧ FL.length = 32) ∧ r = nI ((FL.filter (offF (S.1 12))).length + 1) ∧ S'.1 0 = 0 ∧ S'.1 14 = 0 ∧ dSame S S' ∧
    gRep S' (L.filter (offG (S.1 12))) ∧ fRep S' (FL.filter (offF (S.1 12)) ++ [(S.1 12, 0, S.2 9)]))
set_option maxHeartbeats 4000000 in
set_option maxRecDepth 100000 in
theorem lp_head {K : KT} {h : AH} {mo : Nat} {ad : Nat → Nat} {S : MS} {a b A : Nat → Int32} {F : Nat} {z : Int32} {Q : QR} {X : QX} (hds : mDis mo ad) (hF : S.1 1 = nI F) (hF2 : F < 32)
    (kk : V K mX4_header 106 [some (.ref mo), some (.int z), some (.int (nI 7))] [] (mPut h mo ad (st3 S a b (acp A (S.2 9) F 7))) 0 0 Q X) : ∀ t w : Nat, w + t = 7 → V K mX4_header 74 [some (.ref mo), some (.int z), some (.int (nI w))] [] (mPut h mo ad (st3 S a b (acp A (S.2 9) F w))) 0 0 Q X := by
  intro t
  induction t with
  | zero =>
    intro w hw
    have hw7 : w = 7 := by omega
    subst hw7
    refine v_iload_n 74 dX4_header_74 rfl rfl ?_
    refine v_bipush (v := 7) 75 dX4_header_75 (by decide) ?_
    refine v_icmp_ge (tgt := 106) 77 dX4_header_77 (by decide) (fun c77 => ?_) (fun c77 => absurd (by decide) c77)
    exact kk
  | succ t ih =>
    intro w hw
    have e1 : (7 : Int32) * S.1 1 + nI w = nI (7 * F + w) := by rw [hF, m7, nI_add]
    refine v_iload_n 74 dX4_header_74 rfl rfl ?_
    refine v_bipush (v := 7) 75 dX4_header_75 (by decide) ?_
    refine v_icmp_ge (tgt := 106) 77 dX4_header_77 (by decide) (fun c77 => absurd c77 (nI_ge (b := 7) (by omega) (by decide))) (fun c77 => ?_)
    refine v_aload_n 80 dX4_header_80 rfl rfl ?_
    refine v_getf 81 dX4_header_81 fl_X4_13 mPut_o rfl ?_
    refine v_bipush (v := 7) 84 dX4_header_84 (by decide) ?_
    refine v_aload_n 86 dX4_header_86 rfl rfl ?_
    refine v_getf 87 dX4_header_87 fl_X4_66 mPut_o rfl ?_
    refine v_imul 90 dX4_header_90 ?_
    refine v_iload_n 91 dX4_header_91 rfl rfl ?_
    refine v_iadd 92 dX4_header_92 ?_
    refine v_aload_n 93 dX4_header_93 rfl rfl ?_
    refine v_getf 94 dX4_header_94 fl_X4_27 mPut_o rfl ?_
    refine v_iload_n 97 dX4_header_97 rfl rfl ?_
    refine m_ild 98 9 dX4_header_98 hds (vp_in_nI (N := 7) (by omega) (by decide)) ?_
    refine m_ist 99 3 dX4_header_99 hds (by rw [st3_1, e1]; exact vp_in_nI (N := 231) (by omega) (by decide)) ?_
    refine v_inc2 (y := 1) 100 dX4_header_100 (by decide) ?_
    refine v_goto (tgt := 74) 103 dX4_header_103 (by decide) ?_
    refine V.eq (ih (w + 1) (by omega)) rfl (by rw [← nI_1]) rfl (congrArg (mPut h mo ad) ?_)
    rw [st3_3, st3_p3, st3_1, e1, nI_clamp (by omega), nI_clamp (by omega), show (st3 S a b (acp A (S.2 9) F w)).2 9 = S.2 9 from rfl, acp_s]
set_option maxHeartbeats 4000000 in
set_option maxRecDepth 100000 in
theorem hd_tail {K : KT} {h : AH} {mo : Nat} {ad : Nat → Nat} {S : MS} {F : Nat} {z : Int32} {Q : QR} {X : QX} (hds : mDis mo ad) (hF : S.1 1 = nI F) (hF2 : F < 32) (hq : Q (some (.int (nI (F + 1)))) (mPut h mo ad (hdS S F))) : V K mX4_header 49 [some (.ref mo), some (.int z), none] [] (mPut h mo ad S) 0 0 Q X := by
  refine v_aload_n 49 dX4_header_49 rfl rfl ?_
  refine v_getf 50 dX4_header_50 fl_X4_7 mPut_o rfl ?_
  refine v_aload_n 53 dX4_header_53 rfl rfl ?_
  refine v_getf 54 dX4_header_54 fl_X4_66 mPut_o rfl ?_
  refine v_aload_n 57 dX4_header_57 rfl rfl ?_
  refine v_getf 58 dX4_header_58 fl_X4_55 mPut_o rfl ?_
  refine m_ist 61 2 dX4_header_61 hds (by rw [hF]; exact vp_in_nI (N := 33) (by omega) (by decide)) ?_
  refine v_aload_n 62 dX4_header_62 rfl rfl ?_
  refine v_getf 63 dX4_header_63 fl_X4_16 mPut_o rfl ?_
  refine v_aload_n 66 dX4_header_66 rfl rfl ?_
  refine v_getf 67 dX4_header_67 fl_X4_66 mPut_o rfl ?_
  refine v_iconst (v := 0) 70 dX4_header_70 (by decide) ?_
  refine m_zst 71 4 dX4_header_71 hds (by rw [mA_1, hF]; exact vp_in_nI (N := 33) (by omega) (by decide)) ?_
  refine v_iconst (v := 0) 72 dX4_header_72 (by decide) ?_
  refine v_ist2 73 dX4_header_73 ?_
  refine V.eq (lp_head (S := S) (a := upd (S.2 2) F (S.1 12)) (b := upd (S.2 4) F 0) (A := S.2 3) (F := F) hds hF hF2 ?_ 7 0 (by omega)) rfl rfl rfl (congrArg (mPut h mo ad) ?_)
  · have e1 : S.1 1 + 1 = nI (F + 1) := by rw [hF, nI_1]
    refine v_aload_n 106 dX4_header_106 rfl rfl ?_
    refine v_dup 107 dX4_header_107 rfl ?_
    refine v_getf 108 dX4_header_108 fl_X4_66 mPut_o rfl ?_
    refine v_iconst (v := 1) 111 dX4_header_111 (by decide) ?_
    refine v_iadd 112 dX4_header_112 ?_
    refine m_put 113 dX4_header_113 fl_X4_66 ?_
    refine v_aload_n 116 dX4_header_116 rfl rfl ?_
    refine v_iconst (v := 0) 117 dX4_header_117 (by decide) ?_
    refine m_put 118 dX4_header_118 fl_X4_58 ?_
    refine v_aload_n 121 dX4_header_121 rfl rfl ?_
    refine v_getf 122 dX4_header_122 fl_X4_66 mPut_o rfl ?_
    refine v_iret 125 dX4_header_125 rfl rfl ?_
    rw [st3_1, e1]
    exact hq
  · rw [mA_1, hF, nI_clamp (by omega), acp_0, ← st3_of]
    rfl
set_option maxHeartbeats 4000000 in
set_option maxRecDepth 100000 in
theorem ct_header {K : KT} {h : AH} {mo : Nat} {ad : Nat → Nat} {S : MS} {L : List GL} {FL : List FN} (hds : mDis mo ad) (hR : gRep S L) (hFR : fRep S FL) (hnd : fNd FL) (hin : glIn L FL) : Ct K mX4_header 0 0 [.ref mo] (mPut h mo ad S) (fun r h' => ∃ (b : Int32) (S' : MS), r = some (.int b) ∧ h' = mPut h mo ad S' ∧ headR S FL L S' b) noX := by
  have hF32 := hFR.2.1
  refine ct_of (by decide +kernel) rfl (Nat.le_of_ble_eq_true rfl) rfl ?_
  refine v_aload_n 0 dX4_header_0 rfl rfl ?_
  refine v_aload_n 1 dX4_header_1 rfl rfl ?_
  refine v_getf 2 dX4_header_2 fl_X4_55 mPut_o rfl ?_
  refine m_call 5 [.int (S.1 12)] dX4_header_5 cv_X4_86 (ct_fontOf (F := FL.length) hds hFR.1 (by omega)) (fun r h' hq' => ?_)
  obtain ⟨rfl, rfl⟩ := hq'
  rcases fIx hFR hnd (S.1 12) with ⟨k, e, hk, hx, hix⟩ | ⟨hno, hix⟩
  · have hkl : k < FL.length := (List.getElem?_eq_some_iff.mp hk).1
    show V _ _ 8 _ [.int (lastIx (S.2 2) (S.1 12) FL.length)] _ _ _ _ _
    rw [hix]
    refine v_ist1 8 dX4_header_8 ?_
    refine v_aload_n 9 dX4_header_9 rfl rfl ?_
    refine v_iload_n 10 dX4_header_10 rfl rfl ?_
    refine v_if_ge (tgt := 27) 11 dX4_header_11 (by decide) (fun c11 => ?_) (fun c11 => absurd (nI_pos' (by omega)) c11)
    refine v_iconst (v := 0) 27 dX4_header_27 (by decide) ?_
    refine m_put 28 dX4_header_28 fl_X4_45 ?_
    refine v_aload_n 31 dX4_header_31 rfl rfl ?_
    refine v_getf 32 dX4_header_32 fl_X4_45 mPut_o rfl ?_
    refine v_if_le (tgt := 40) 35 dX4_header_35 (by decide) (fun c35 => ?_) (fun c35 => absurd (by rw [mI_s]; decide) c35)
    refine v_iload_n 40 dX4_header_40 rfl rfl ?_
    refine v_if_lt (tgt := 49) 41 dX4_header_41 (by decide) (fun c41 => absurd c41 (nI_pos (by omega))) (fun c41 => ?_)
    refine v_aload_n 44 dX4_header_44 rfl rfl ?_
    refine v_iload_n 45 dX4_header_45 rfl rfl ?_
    refine m_call 46 [.int (nI k)] dX4_header_46 cv_X4_89 (ct_goFont (S := mI S 0 0) hds (gRep_congr hR rfl rfl rfl rfl) (fRep_congr hFR rfl rfl rfl rfl) hk) (fun r h' hq' => ?_)
    obtain ⟨rfl, S1, rfl, hs1, hR1, hFR1⟩ := hq'
    rw [erase_offF hnd hk, hx] at hFR1
    rw [hx] at hR1
    have hlt : (FL.filter (offF (S.1 12))).length < 32 := by
      rw [← hx, ← erase_offF hnd hk, List.length_eraseIdx_of_lt hkl]; omega
    have h12 : S1.1 12 = S.1 12 := hs1.1 12 (by decide) (by decide) (by decide)
    have h9 : S1.2 9 = S.2 9 := hs1.2 9 (by decide) (by decide) (by decide) (by decide) (by decide)
    refine hd_tail (F := (FL.filter (offF (S.1 12))).length) hds hFR1.1 hlt ⟨_, _, rfl, rfl, Or.inr ⟨fun hh => hh.1 e (List.mem_of_getElem? hk) hx, rfl, ?_, rfl, dSame_tr (dSame_tr (dSame_0 S 0) (dSame_f hs1)) (dSame_hd _ _), gRep_congr hR1 rfl rfl rfl rfl, ?_⟩⟩
    · exact hs1.1 0 (by decide) (by decide) (by decide)
    · have := fRep_hd hFR1 hlt
      rw [h12, h9] at this
      exact this
  · show V _ _ 8 _ [.int (lastIx (S.2 2) (S.1 12) FL.length)] _ _ _ _ _
    rw [hix]
    refine v_ist1 8 dX4_header_8 ?_
    refine v_aload_n 9 dX4_header_9 rfl rfl ?_
    refine v_iload_n 10 dX4_header_10 rfl rfl ?_
    refine v_if_ge (tgt := 27) 11 dX4_header_11 (by decide) (fun c11 => absurd c11 (by decide)) (fun c11 => ?_)
    refine v_aload_n 14 dX4_header_14 rfl rfl ?_
    refine v_getf 15 dX4_header_15 fl_X4_66 mPut_o rfl ?_
    refine v_bipush (v := 32) 18 dX4_header_18 (by decide) ?_
    refine v_icmp_ne (tgt := 27) 20 dX4_header_20 (by decide) (fun c20 => ?_) (fun c20 => ?_)
    · refine v_iconst (v := 0) 27 dX4_header_27 (by decide) ?_
      refine m_put 28 dX4_header_28 fl_X4_45 ?_
      refine v_aload_n 31 dX4_header_31 rfl rfl ?_
      refine v_getf 32 dX4_header_32 fl_X4_45 mPut_o rfl ?_
      refine v_if_le (tgt := 40) 35 dX4_header_35 (by decide) (fun c35 => ?_) (fun c35 => absurd (by rw [mI_s]; decide) c35)
      refine v_iload_n 40 dX4_header_40 rfl rfl ?_
      refine v_if_lt (tgt := 49) 41 dX4_header_41 (by decide) (fun c41 => ?_) (fun c41 => absurd (by decide) c41)
      have hlt : FL.length < 32 := by
        refine Nat.lt_of_le_of_ne hF32 (fun hh => c20 ?_)
        rw [hFR.1, hh]; rfl
      refine hd_tail (F := FL.length) hds hFR.1 hlt ⟨_, _, rfl, rfl, Or.inr ⟨fun hh => absurd hh.2 (by omega), by rw [filtF_no hno], rfl, rfl, dSame_tr (dSame_0 S 0) (dSame_hd _ _), ?_, ?_⟩⟩
      · rw [filt_no hin hno]; exact gRep_congr hR rfl rfl rfl rfl
      · rw [filtF_no hno]; exact fRep_hd (fRep_congr (S' := mI S 0 0) hFR rfl rfl rfl rfl) hlt
    · refine v_iconst (v := 1) 23 dX4_header_23 (by decide) ?_
      refine v_goto (tgt := 28) 24 dX4_header_24 (by decide) ?_
      refine m_put 28 dX4_header_28 fl_X4_45 ?_
      refine v_aload_n 31 dX4_header_31 rfl rfl ?_
      refine v_getf 32 dX4_header_32 fl_X4_45 mPut_o rfl ?_
      refine v_if_le (tgt := 40) 35 dX4_header_35 (by decide) (fun c35 => absurd c35 (by rw [mI_s]; decide)) (fun c35 => ?_)
      refine v_iconst (v := 0) 38 dX4_header_38 (by decide) ?_
      refine v_iret 39 dX4_header_39 rfl rfl ?_
      exact ⟨_, _, rfl, rfl, Or.inl ⟨hno, (nI_eq (b := 32) (by omega) (by decide)).mp (hFR.1.symm.trans c20), rfl, rfl⟩⟩

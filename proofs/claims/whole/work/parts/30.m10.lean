def offG (x : Int32) (g : GL) : Bool := decide (¬ g.1 0 = x)
def st3 (S : MS) (a b c : Nat → Int32) : MS := mA (mA (mA S 2 a) 4 b) 3 c
theorem st3_2 (S : MS) (a b c a' : Nat → Int32) : mA (st3 S a b c) 2 a' = st3 S a' b c := by
  refine Prod.ext rfl (funext fun j => ?_)
  show (if j = 2 then a' else if j = 3 then c else if j = 4 then b else if j = 2 then a else S.2 j) = (if j = 3 then c else if j = 4 then b else if j = 2 then a' else S.2 j)
  by_cases h2 : j = 2
  · subst h2; rfl
  · simp [h2]
theorem st3_4 (S : MS) (a b c b' : Nat → Int32) : mA (st3 S a b c) 4 b' = st3 S a b' c := by
  refine Prod.ext rfl (funext fun j => ?_)
  show (if j = 4 then b' else if j = 3 then c else if j = 4 then b else if j = 2 then a else S.2 j) = (if j = 3 then c else if j = 4 then b' else if j = 2 then a else S.2 j)
  by_cases h2 : j = 4
  · subst h2; rfl
  · simp [h2]
theorem st3_3 (S : MS) (a b c c' : Nat → Int32) : mA (st3 S a b c) 3 c' = st3 S a b c' := mA_mA _ _ _ _
theorem st3_p2 (S : MS) (a b c : Nat → Int32) : (st3 S a b c).2 2 = a := rfl
theorem st3_p4 (S : MS) (a b c : Nat → Int32) : (st3 S a b c).2 4 = b := rfl
theorem st3_p3 (S : MS) (a b c : Nat → Int32) : (st3 S a b c).2 3 = c := rfl
theorem st3_1 (S : MS) (a b c : Nat → Int32) : (st3 S a b c).1 = S.1 := rfl
theorem st3_id (S : MS) : st3 S (S.2 2) (S.2 4) (S.2 3) = S := by
  refine Prod.ext rfl (funext fun j => ?_)
  show (if j = 3 then S.2 3 else if j = 4 then S.2 4 else if j = 2 then S.2 2 else S.2 j) = S.2 j
  by_cases h3 : j = 3
  · subst h3; rfl
  · by_cases h4 : j = 4
    · subst h4; rfl
    · by_cases h2 : j = 2
      · subst h2; rfl
      · simp [h2, h3, h4]
set_option maxHeartbeats 4000000 in
set_option maxRecDepth 100000 in
theorem lp_goF1 {K : KT} {h : AH} {mo : Nat} {ad : Nat → Nat} {S : MS} {L : List GL} {f F : Nat} {Q : QR} {X : QX} (hds : mDis mo ad) (hL : L.length ≤ 256) (hf : f < 33)
    (kk : ∀ S', gRep S' (L.filter (offG (S.2 2 f))) → gSame S S' → V K mX4_goFont 40 [some (.ref mo), some (.int (nI f)), some (.int (-1)), none] [] (mPut h mo ad S') 0 0 Q X) : ∀ (j : Nat) (S' : MS), j ≤ L.length → gRep S' (L.take j ++ (L.drop j).filter (offG (S.2 2 f))) → gSame S S' → V K mX4_goFont 7 [some (.ref mo), some (.int (nI f)), some (.int (kv j)), none] [] (mPut h mo ad S') 0 0 Q X := by
  intro j
  induction j with
  | zero =>
    intro S' hj hR hs
    rw [List.take_zero, List.nil_append, List.drop_zero] at hR
    refine v_iload_n 7 dX4_goFont_7 rfl rfl ?_
    refine v_if_lt (tgt := 40) 8 dX4_goFont_8 (by decide) (fun c8 => ?_) (fun c8 => absurd (by decide) c8)
    exact kk S' hR hs
  | succ j ih =>
    intro S' hj hR hs
    have hjl : j < L.length := hj
    have hgj : L[j]? = some L[j] := List.getElem?_eq_getElem hjl
    have hlist : L.take (j + 1) ++ (L.drop (j + 1)).filter (offG (S.2 2 f)) = L.take j ++ (L[j] :: (L.drop (j + 1)).filter (offG (S.2 2 f))) := by
      rw [show L.take (j + 1) = L.take j ++ [L[j]] from by rw [List.take_succ, hgj]; rfl, List.append_assoc]; rfl
    have hat : (L.take (j + 1) ++ (L.drop (j + 1)).filter (offG (S.2 2 f)))[j]? = some L[j] := by
      rw [hlist, List.getElem?_append_right (by simp; omega)]; simp [Nat.min_eq_left (Nat.le_of_lt hjl)]
    have hdj : L.drop j = L[j] :: L.drop (j + 1) := List.drop_eq_getElem_cons hjl
    have e0 : S'.2 6 (7 * j) = L[j].1 0 := hR.2.2.1 j _ hat 0 (by decide)
    have ei : S'.2 2 f = S.2 2 f := by rw [hs.2 2 (by decide) (by decide)]
    refine v_iload_n 7 dX4_goFont_7 rfl rfl ?_
    refine v_if_lt (tgt := 40) 8 dX4_goFont_8 (by decide) (fun c8 => absurd c8 (nI_pos (by omega))) (fun c8 => ?_)
    refine v_aload_n 11 dX4_goFont_11 rfl rfl ?_
    refine v_getf 12 dX4_goFont_12 fl_X4_20 mPut_o rfl ?_
    refine v_bipush (v := 7) 15 dX4_goFont_15 (by decide) ?_
    refine v_iload_n 17 dX4_goFont_17 rfl rfl ?_
    refine v_imul 18 dX4_goFont_18 ?_
    refine m_ild 19 6 dX4_goFont_19 hds (by rw [show kv (j + 1) = nI j from rfl, m7]; exact vp_in_nI (N := 1799) (by omega) (by decide)) ?_
    refine v_aload_n 20 dX4_goFont_20 rfl rfl ?_
    refine v_getf 21 dX4_goFont_21 fl_X4_7 mPut_o rfl ?_
    refine v_iload_n 24 dX4_goFont_24 rfl rfl ?_
    refine m_ild 25 2 dX4_goFont_25 hds (vp_in_nI (N := 33) hf (by decide)) ?_
    refine v_icmp_ne (tgt := 34) 26 dX4_goFont_26 (by decide) (fun c26 => ?_) (fun c26 => ?_)
    · refine v_inc2 (y := -1) 34 dX4_goFont_34 (by decide) ?_
      refine v_goto (tgt := 7) 37 dX4_goFont_37 (by decide) ?_
      rw [show kv (j + 1) = nI j from rfl, m7, nI_clamp (by omega), nI_clamp (by omega), e0, ei] at c26
      first
        | (refine V.eq (ih S2 (by omega) ?_ (gSame_tr hs hs2)) rfl (by rw [← kv_dec j]; rfl) rfl rfl
           rw [hlist, List.eraseIdx_append_of_length_le (by simp; omega)] at hR2
           rw [hdj, List.filter_cons_of_neg (by simpa [offG] using c26)]
           simpa [Nat.min_eq_left (Nat.le_of_lt hjl)] using hR2)
        | (refine V.eq (ih S' (by omega) ?_ hs) rfl (by rw [← kv_dec j]; rfl) rfl rfl
           rw [hdj, List.filter_cons_of_pos (by simpa [offG] using c26), ← hlist]
           exact hR)
    · refine v_aload_n 29 dX4_goFont_29 rfl rfl ?_
      refine v_iload_n 30 dX4_goFont_30 rfl rfl ?_
      refine m_call 31 [.int (nI j)] dX4_goFont_31 cv_X4_82 (ct_goG hds hR (List.getElem?_eq_some_iff.mp hat).1) (fun r h' hq' => ?_)
      obtain ⟨rfl, S2, rfl, hs2, hR2⟩ := hq'
      refine v_inc2 (y := -1) 34 dX4_goFont_34 (by decide) ?_
      refine v_goto (tgt := 7) 37 dX4_goFont_37 (by decide) ?_
      rw [show kv (j + 1) = nI j from rfl, m7, nI_clamp (by omega), nI_clamp (by omega), e0, ei] at c26
      first
        | (refine V.eq (ih S2 (by omega) ?_ (gSame_tr hs hs2)) rfl (by rw [← kv_dec j]; rfl) rfl rfl
           rw [hlist, List.eraseIdx_append_of_length_le (by simp; omega)] at hR2
           rw [hdj, List.filter_cons_of_neg (by simpa [offG] using c26)]
           simpa [Nat.min_eq_left (Nat.le_of_lt hjl)] using hR2)
        | (refine V.eq (ih S' (by omega) ?_ hs) rfl (by rw [← kv_dec j]; rfl) rfl rfl
           rw [hdj, List.filter_cons_of_pos (by simpa [offG] using c26), ← hlist]
           exact hR)
set_option maxHeartbeats 4000000 in
set_option maxRecDepth 100000 in
theorem lp_goF3 {K : KT} {h : AH} {mo : Nat} {ad : Nat → Nat} {S : MS} {a b A : Nat → Int32} {f i : Nat} {Q : QR} {X : QX} (hds : mDis mo ad) (hi : f + i < 32)
    (kk : V K mX4_goFont 127 [some (.ref mo), some (.int (nI f)), some (.int (nI (f + i))), some (.int (nI 7))] [] (mPut h mo ad (st3 S a b (shL A (7 * f) 7 (7 * i + 7)))) 0 0 Q X) : ∀ t w : Nat, w + t = 7 → V K mX4_goFont 90 [some (.ref mo), some (.int (nI f)), some (.int (nI (f + i))), some (.int (nI w))] [] (mPut h mo ad (st3 S a b (shL A (7 * f) 7 (7 * i + w)))) 0 0 Q X := by
  intro t
  induction t with
  | zero =>
    intro w hw
    have hw7 : w = 7 := by omega
    subst hw7
    refine v_iload_n 90 dX4_goFont_90 rfl rfl ?_
    refine v_bipush (v := 7) 91 dX4_goFont_91 (by decide) ?_
    refine v_icmp_ge (tgt := 127) 93 dX4_goFont_93 (by decide) (fun c93 => ?_) (fun c93 => absurd (by decide) c93)
    exact kk
  | succ t ih =>
    intro w hw
    have e1 : (7 : Int32) * nI (f + i) + nI w = nI (7 * (f + i) + w) := by rw [m7, nI_add]
    have e2 : (7 : Int32) * nI (f + i) + 7 + nI w = nI (7 * (f + i) + 7 + w) := by rw [m7, show (7 : Int32) = nI 7 from rfl, nI_add, nI_add]
    refine v_iload_n 90 dX4_goFont_90 rfl rfl ?_
    refine v_bipush (v := 7) 91 dX4_goFont_91 (by decide) ?_
    refine v_icmp_ge (tgt := 127) 93 dX4_goFont_93 (by decide) (fun c93 => absurd c93 (nI_ge (b := 7) (by omega) (by decide))) (fun c93 => ?_)
    refine v_aload_n 96 dX4_goFont_96 rfl rfl ?_
    refine v_getf 97 dX4_goFont_97 fl_X4_13 mPut_o rfl ?_
    refine v_bipush (v := 7) 100 dX4_goFont_100 (by decide) ?_
    refine v_iload_n 102 dX4_goFont_102 rfl rfl ?_
    refine v_imul 103 dX4_goFont_103 ?_
    refine v_iload_n 104 dX4_goFont_104 rfl rfl ?_
    refine v_iadd 105 dX4_goFont_105 ?_
    refine v_aload_n 106 dX4_goFont_106 rfl rfl ?_
    refine v_getf 107 dX4_goFont_107 fl_X4_13 mPut_o rfl ?_
    refine v_bipush (v := 7) 110 dX4_goFont_110 (by decide) ?_
    refine v_iload_n 112 dX4_goFont_112 rfl rfl ?_
    refine v_imul 113 dX4_goFont_113 ?_
    refine v_bipush (v := 7) 114 dX4_goFont_114 (by decide) ?_
    refine v_iadd 116 dX4_goFont_116 ?_
    refine v_iload_n 117 dX4_goFont_117 rfl rfl ?_
    refine v_iadd 118 dX4_goFont_118 ?_
    refine m_ild 119 3 dX4_goFont_119 hds (by rw [e2]; exact vp_in_nI (N := 231) (by omega) (by decide)) ?_
    refine m_ist 120 3 dX4_goFont_120 hds (by rw [e1]; exact vp_in_nI (N := 231) (by omega) (by decide)) ?_
    refine v_inc3 (y := 1) 121 dX4_goFont_121 (by decide) ?_
    refine v_goto (tgt := 90) 124 dX4_goFont_124 (by decide) ?_
    refine V.eq (ih (w + 1) (by omega)) rfl (by rw [← nI_1]) rfl (congrArg (mPut h mo ad) ?_)
    rw [st3_3, st3_p3, e1, e2, nI_clamp (by omega), nI_clamp (by omega), show 7 * (f + i) + 7 + w = 7 * f + 7 + (7 * i + w) by omega, shL_at, show 7 * (f + i) + w = 7 * f + (7 * i + w) by omega, shL_s]
    rfl
set_option maxHeartbeats 4000000 in
set_option maxRecDepth 100000 in
theorem lp_goF2 {K : KT} {h : AH} {mo : Nat} {ad : Nat → Nat} {S : MS} {I P A : Nat → Int32} {f F : Nat} {Q : QR} {X : QX} (hds : mDis mo ad) (hF : S.1 1 = nI F) (hF2 : F < 32) (hfF : f ≤ F) (hP : ∀ j, j ≤ F → vp_nar .boolean (P j) = P j)
    (hq : Q none (mPut h mo ad (st3 S (shL I f 1 (F - f)) (shL P f 1 (F - f)) (shL A (7 * f) 7 (7 * (F - f)))))) : ∀ (t i : Nat) (z : Option Value), i + t = F - f → oc1 z = true → V K mX4_goFont 52 [some (.ref mo), some (.int (nI f)), some (.int (nI (f + i))), z] [] (mPut h mo ad (st3 S (shL I f 1 i) (shL P f 1 i) (shL A (7 * f) 7 (7 * i)))) 0 0 Q X := by
  intro t
  induction t with
  | zero =>
    intro i z hi hz
    have hiE : i = F - f := by omega
    subst hiE
    refine v_iload_n 52 dX4_goFont_52 rfl rfl ?_
    refine v_aload_n 53 dX4_goFont_53 rfl rfl ?_
    refine v_getf 54 dX4_goFont_54 fl_X4_66 mPut_o rfl ?_
    refine v_icmp_ge (tgt := 133) 57 dX4_goFont_57 (by decide) (fun c57 => ?_) (fun c57 => absurd (by rw [st3_1, hF]; exact nI_le (by omega) (by omega)) c57)
    refine v_vret 133 dX4_goFont_133 rfl ?_
    exact hq
  | succ t ih =>
    intro i z hi hz
    have e1 : nI (f + i) + 1 = nI (f + 1 + i) := by rw [nI_1, show f + i + 1 = f + 1 + i by omega]
    refine v_iload_n 52 dX4_goFont_52 rfl rfl ?_
    refine v_aload_n 53 dX4_goFont_53 rfl rfl ?_
    refine v_getf 54 dX4_goFont_54 fl_X4_66 mPut_o rfl ?_
    refine v_icmp_ge (tgt := 133) 57 dX4_goFont_57 (by decide) (fun c57 => absurd c57 (by rw [st3_1, hF]; exact nI_ge (by omega) (by omega))) (fun c57 => ?_)
    refine v_aload_n 60 dX4_goFont_60 rfl rfl ?_
    refine v_getf 61 dX4_goFont_61 fl_X4_7 mPut_o rfl ?_
    refine v_iload_n 64 dX4_goFont_64 rfl rfl ?_
    refine v_aload_n 65 dX4_goFont_65 rfl rfl ?_
    refine v_getf 66 dX4_goFont_66 fl_X4_7 mPut_o rfl ?_
    refine v_iload_n 69 dX4_goFont_69 rfl rfl ?_
    refine v_iconst (v := 1) 70 dX4_goFont_70 (by decide) ?_
    refine v_iadd 71 dX4_goFont_71 ?_
    refine m_ild 72 2 dX4_goFont_72 hds (by rw [e1]; exact vp_in_nI (N := 33) (by omega) (by decide)) ?_
    refine m_ist 73 2 dX4_goFont_73 hds (vp_in_nI (N := 33) (by omega) (by decide)) ?_
    refine v_aload_n 74 dX4_goFont_74 rfl rfl ?_
    refine v_getf 75 dX4_goFont_75 fl_X4_16 mPut_o rfl ?_
    refine v_iload_n 78 dX4_goFont_78 rfl rfl ?_
    refine v_aload_n 79 dX4_goFont_79 rfl rfl ?_
    refine v_getf 80 dX4_goFont_80 fl_X4_16 mPut_o rfl ?_
    refine v_iload_n 83 dX4_goFont_83 rfl rfl ?_
    refine v_iconst (v := 1) 84 dX4_goFont_84 (by decide) ?_
    refine v_iadd 85 dX4_goFont_85 ?_
    refine m_zld 86 4 dX4_goFont_86 hds (by rw [e1]; exact vp_in_nI (N := 33) (by omega) (by decide)) ?_
    refine m_zst 87 4 dX4_goFont_87 hds (vp_in_nI (N := 33) (by omega) (by decide)) ?_
    refine v_iconst (v := 0) 88 dX4_goFont_88 (by decide) ?_
    refine v_ist3 89 dX4_goFont_89 ?_
    have eS : mA (mA (st3 S (shL I f 1 i) (shL P f 1 i) (shL A (7 * f) 7 (7 * i))) 2 (upd ((st3 S (shL I f 1 i) (shL P f 1 i) (shL A (7 * f) 7 (7 * i))).2 2) (nI (f + i)).toNatClampNeg ((st3 S (shL I f 1 i) (shL P f 1 i) (shL A (7 * f) 7 (7 * i))).2 2 (nI (f + i) + 1).toNatClampNeg))) 4 (upd (shL P f 1 i) (nI (f + i)).toNatClampNeg (vp_nar .boolean (shL P f 1 i (nI (f + i) + 1).toNatClampNeg))) = st3 S (shL I f 1 (i + 1)) (shL P f 1 (i + 1)) (shL A (7 * f) 7 (7 * i)) := by
      rw [st3_2, st3_4, st3_p2, e1, nI_clamp (by omega), nI_clamp (by omega), shL_at, shL_at, hP _ (by omega), shL_s, shL_s]
    refine V.eq (lp_goF3 (S := S) (a := shL I f 1 (i + 1)) (b := shL P f 1 (i + 1)) (A := A) (f := f) (i := i) hds (by omega) ?_ 7 0 (by omega)) rfl rfl rfl (congrArg (mPut h mo ad) eS.symm)
    refine v_inc2 (y := 1) 127 dX4_goFont_127 (by decide) ?_
    refine v_goto (tgt := 52) 130 dX4_goFont_130 (by decide) ?_
    exact V.eq (ih (i + 1) (some (.int (nI 7))) (by omega) rfl) rfl (by rw [nI_1]; rfl) rfl rfl

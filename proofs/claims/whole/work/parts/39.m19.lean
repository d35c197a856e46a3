set_option maxHeartbeats 4000000 in
set_option maxRecDepth 100000 in
theorem lp_of1 {K : KT} {h : AH} {mo : Nat} {ad : Nat → Nat} {S : MS} {L : List GL} {g W D : Nat} {q : GL} (hds : mDis mo ad) (hR : gRep S L) (hg : L[g]? = some q) (hW : q.1 4 = nI W) (hD : q.1 5 = nI D) (hW2 : W ≤ 128) (hD2 : D ≤ 128) {b c w A : Int32} {y : Nat} (hy : y < D) {Q : QR} {X : QX}
    (kk : V K mX4_of 168 [some (.ref mo), some (.int b), some (.int c), some (.int w), some (.int (nI g)), some (.int (A + blX q W y W)), some (.int (nI y)), some (.int (nI W))] [] (mPut h mo ad S) 0 0 Q X) : ∀ t x : Nat, x + t = W → V K mX4_of 122 [some (.ref mo), some (.int b), some (.int c), some (.int w), some (.int (nI g)), some (.int (A + blX q W y x)), some (.int (nI y)), some (.int (nI x))] [] (mPut h mo ad S) 0 0 Q X := by
  have hgl : g < L.length := (List.getElem?_eq_some_iff.mp hg).1
  have hL := hR.2.1
  have e4 : (7 : Int32) * nI g + 4 = nI (7 * g + 4) := by rw [m7]; exact m7a g 4
  have e5 : (7 : Int32) * nI g + 5 = nI (7 * g + 5) := by rw [m7]; exact m7a g 5
  have eW : S.2 6 ((7 : Int32) * nI g + 4).toNatClampNeg = nI W := by rw [e4, nI_clamp (by omega), hR.2.2.1 g q hg 4 (by decide), hW]
  have eD : S.2 6 ((7 : Int32) * nI g + 5).toNatClampNeg = nI D := by rw [e5, nI_clamp (by omega), hR.2.2.1 g q hg 5 (by decide), hD]
  have i4 : vp_in ((7 : Int32) * nI g + 4) 1799 := by rw [e4]; exact vp_in_nI (N := 1799) (by omega) (by decide)
  have i5 : vp_in ((7 : Int32) * nI g + 5) 1799 := by rw [e5]; exact vp_in_nI (N := 1799) (by omega) (by decide)
  intro t
  induction t with
  | zero =>
    intro x hx
    have hxW : x = W := by omega
    subst hxW
    refine v_iload 122 dX4_of_122 rfl ?_
    refine v_aload_n 124 dX4_of_124 rfl rfl ?_
    refine v_getf 125 dX4_of_125 fl_X4_20 mPut_o rfl ?_
    refine v_bipush (v := 7) 128 dX4_of_128 (by decide) ?_
    refine v_iload 130 dX4_of_130 rfl ?_
    refine v_imul 132 dX4_of_132 ?_
    refine v_iconst (v := 4) 133 dX4_of_133 (by decide) ?_
    refine v_iadd 134 dX4_of_134 ?_
    refine m_ild 135 6 dX4_of_135 hds i4 ?_
    refine v_icmp_ge (tgt := 168) 136 dX4_of_136 (by decide) (fun c136 => ?_) (fun c136 => absurd (by rw [eW]; exact nI_le (Nat.le_refl _) (by omega)) c136)
    exact kk
  | succ t ih =>
    intro x hx
    refine v_iload 122 dX4_of_122 rfl ?_
    refine v_aload_n 124 dX4_of_124 rfl rfl ?_
    refine v_getf 125 dX4_of_125 fl_X4_20 mPut_o rfl ?_
    refine v_bipush (v := 7) 128 dX4_of_128 (by decide) ?_
    refine v_iload 130 dX4_of_130 rfl ?_
    refine v_imul 132 dX4_of_132 ?_
    refine v_iconst (v := 4) 133 dX4_of_133 (by decide) ?_
    refine v_iadd 134 dX4_of_134 ?_
    refine m_ild 135 6 dX4_of_135 hds i4 ?_
    refine v_icmp_ge (tgt := 168) 136 dX4_of_136 (by decide) (fun c136 => absurd c136 (by rw [eW]; exact nI_ge (by omega) (by omega))) (fun c136 => ?_)
    refine v_iload 139 dX4_of_139 rfl ?_
    refine v_aload_n 141 dX4_of_141 rfl rfl ?_
    refine v_iload 142 dX4_of_142 rfl ?_
    refine v_iload 144 dX4_of_144 rfl ?_
    refine v_iload 146 dX4_of_146 rfl ?_
    refine m_call 148 [.int (nI g), .int (nI x), .int (nI y)] dX4_of_148 cv_X4_132 (ct_isBlack hds hR hg hW hD hW2 hD2 (by omega) hy) (fun r h' hq' => ?_)
    obtain ⟨rfl, rfl⟩ := hq'
    refine v_if_eq (tgt := 158) 151 dX4_of_151 (by decide) (fun c151 => ?_) (fun c151 => ?_)
    · refine v_iconst (v := 0) 158 dX4_of_158 (by decide) ?_
      refine v_iadd 159 dX4_of_159 ?_
      refine v_ist5 160 dX4_of_160 ?_
      refine v_inc7 (y := 1) 162 dX4_of_162 (by decide) ?_
      refine v_goto (tgt := 122) 165 dX4_of_165 (by decide) ?_
      refine V.eq (ih (x + 1) (by omega)) rfl ?_ rfl rfl
      rw [← nI_1, blX]
      first
        | rw [bI_z c151, bI_f, ← Int32.add_assoc] <;> rfl
        | rw [bI_n c151, bI_t, ← Int32.add_assoc] <;> rfl
    · refine v_iconst (v := 1) 154 dX4_of_154 (by decide) ?_
      refine v_goto (tgt := 159) 155 dX4_of_155 (by decide) ?_
      refine v_iadd 159 dX4_of_159 ?_
      refine v_ist5 160 dX4_of_160 ?_
      refine v_inc7 (y := 1) 162 dX4_of_162 (by decide) ?_
      refine v_goto (tgt := 122) 165 dX4_of_165 (by decide) ?_
      refine V.eq (ih (x + 1) (by omega)) rfl ?_ rfl rfl
      rw [← nI_1, blX]
      first
        | rw [bI_z c151, bI_f, ← Int32.add_assoc] <;> rfl
        | rw [bI_n c151, bI_t, ← Int32.add_assoc] <;> rfl
set_option maxHeartbeats 4000000 in
set_option maxRecDepth 100000 in
theorem lp_of2 {K : KT} {h : AH} {mo : Nat} {ad : Nat → Nat} {S : MS} {L : List GL} {g W D : Nat} {q : GL} (hds : mDis mo ad) (hR : gRep S L) (hg : L[g]? = some q) (hW : q.1 4 = nI W) (hD : q.1 5 = nI D) (hW2 : W ≤ 128) (hD2 : D ≤ 128) {b c w : Int32} {Q : QR} {X : QX} (hq : Q (some (.int (blY q W D))) (mPut h mo ad S)) : ∀ (t y : Nat) (z : Option Value), y + t = D → oc1 z = true → V K mX4_of 102 [some (.ref mo), some (.int b), some (.int c), some (.int w), some (.int (nI g)), some (.int (blY q W y)), some (.int (nI y)), z] [] (mPut h mo ad S) 0 0 Q X := by
  have hgl : g < L.length := (List.getElem?_eq_some_iff.mp hg).1
  have hL := hR.2.1
  have e4 : (7 : Int32) * nI g + 4 = nI (7 * g + 4) := by rw [m7]; exact m7a g 4
  have e5 : (7 : Int32) * nI g + 5 = nI (7 * g + 5) := by rw [m7]; exact m7a g 5
  have eW : S.2 6 ((7 : Int32) * nI g + 4).toNatClampNeg = nI W := by rw [e4, nI_clamp (by omega), hR.2.2.1 g q hg 4 (by decide), hW]
  have eD : S.2 6 ((7 : Int32) * nI g + 5).toNatClampNeg = nI D := by rw [e5, nI_clamp (by omega), hR.2.2.1 g q hg 5 (by decide), hD]
  have i4 : vp_in ((7 : Int32) * nI g + 4) 1799 := by rw [e4]; exact vp_in_nI (N := 1799) (by omega) (by decide)
  have i5 : vp_in ((7 : Int32) * nI g + 5) 1799 := by rw [e5]; exact vp_in_nI (N := 1799) (by omega) (by decide)
  intro t
  induction t with
  | zero =>
    intro y z hy hz
    have hyD : y = D := by omega
    subst hyD
    refine v_iload 102 dX4_of_102 rfl ?_
    refine v_aload_n 104 dX4_of_104 rfl rfl ?_
    refine v_getf 105 dX4_of_105 fl_X4_20 mPut_o rfl ?_
    refine v_bipush (v := 7) 108 dX4_of_108 (by decide) ?_
    refine v_iload 110 dX4_of_110 rfl ?_
    refine v_imul 112 dX4_of_112 ?_
    refine v_iconst (v := 5) 113 dX4_of_113 (by decide) ?_
    refine v_iadd 114 dX4_of_114 ?_
    refine m_ild 115 6 dX4_of_115 hds i5 ?_
    refine v_icmp_ge (tgt := 174) 116 dX4_of_116 (by decide) (fun c116 => ?_) (fun c116 => absurd (by rw [eD]; exact nI_le (Nat.le_refl _) (by omega)) c116)
    refine v_iload 174 dX4_of_174 rfl ?_
    refine v_iret 176 dX4_of_176 rfl rfl ?_
    exact hq
  | succ t ih =>
    intro y z hy hz
    refine v_iload 102 dX4_of_102 rfl ?_
    refine v_aload_n 104 dX4_of_104 rfl rfl ?_
    refine v_getf 105 dX4_of_105 fl_X4_20 mPut_o rfl ?_
    refine v_bipush (v := 7) 108 dX4_of_108 (by decide) ?_
    refine v_iload 110 dX4_of_110 rfl ?_
    refine v_imul 112 dX4_of_112 ?_
    refine v_iconst (v := 5) 113 dX4_of_113 (by decide) ?_
    refine v_iadd 114 dX4_of_114 ?_
    refine m_ild 115 6 dX4_of_115 hds i5 ?_
    refine v_icmp_ge (tgt := 174) 116 dX4_of_116 (by decide) (fun c116 => absurd c116 (by rw [eD]; exact nI_ge (by omega) (by omega))) (fun c116 => ?_)
    refine v_iconst (v := 0) 119 dX4_of_119 (by decide) ?_
    refine v_ist7 120 dX4_of_120 ?_
    refine V.eq (lp_of1 (A := blY q W y) (y := y) hds hR hg hW hD hW2 hD2 (by omega) ?_ W 0 (by omega)) rfl (by rw [blX, Int32.add_zero]; rfl) rfl rfl
    refine v_inc6 (y := 1) 168 dX4_of_168 (by decide) ?_
    refine v_goto (tgt := 102) 171 dX4_of_171 (by decide) ?_
    exact V.eq (ih (y + 1) (some (.int (nI W))) (by omega) rfl) rfl (by rw [← nI_1, blY]) rfl rfl
set_option maxHeartbeats 4000000 in
set_option maxRecDepth 100000 in
theorem ct_of_ {K : KT} {h : AH} {mo : Nat} {ad : Nat → Nat} {S : MS} {L : List GL} {F : Nat} {which c w : Int32} (hds : mDis mo ad) (hR : gRep S L) (hF : S.1 1 = nI F) (hF2 : F ≤ 32) : Ct K mX4_of 0 0 [.ref mo, .int which, .int c, .int w] (mPut h mo ad S) (fun r h' => ∃ (v : Int32) (S' : MS), r = some (.int v) ∧ h' = mPut h mo ad S' ∧ ofR S F L which c w S' v) noX := by
  refine ct_of (by decide +kernel) rfl (Nat.le_of_ble_eq_true rfl) rfl ?_
  refine v_aload_n 0 dX4_of_0 rfl rfl ?_
  refine v_iload_n 1 dX4_of_1 rfl rfl ?_
  refine v_if_eq (tgt := 10) 2 dX4_of_2 (by decide) (fun c2 => ?_) (fun c2 => ?_)
  · refine v_iload_n 10 dX4_of_10 rfl rfl ?_
    refine v_if_lt (tgt := 19) 11 dX4_of_11 (by decide) (fun c11 => ?_) (fun c11 => ?_)
    · refine v_iconst (v := 1) 19 dX4_of_19 (by decide) ?_
      refine v_goto (tgt := 24) 20 dX4_of_20 (by decide) ?_
      refine m_put 24 dX4_of_24 fl_X4_45 ?_
      refine v_aload_n 27 dX4_of_27 rfl rfl ?_
      refine v_getf 28 dX4_of_28 fl_X4_45 mPut_o rfl ?_
      refine v_if_le (tgt := 36) 31 dX4_of_31 (by decide) (fun c31 => absurd c31 (by rw [mI_s]; decide)) (fun c31 => ?_)
      refine v_iconst (v := 0) 34 dX4_of_34 (by decide) ?_
      refine v_iret 35 dX4_of_35 rfl rfl ?_
      exact ⟨_, _, rfl, rfl, Or.inl ⟨Or.inr (Or.inl c11), rfl, rfl⟩⟩
    · refine v_iload_n 14 dX4_of_14 rfl rfl ?_
      refine v_iconst (v := 5) 15 dX4_of_15 (by decide) ?_
      refine v_icmp_le (tgt := 23) 16 dX4_of_16 (by decide) (fun c16 => ?_) (fun c16 => ?_)
      · refine v_iconst (v := 0) 23 dX4_of_23 (by decide) ?_
        refine m_put 24 dX4_of_24 fl_X4_45 ?_
        refine v_aload_n 27 dX4_of_27 rfl rfl ?_
        refine v_getf 28 dX4_of_28 fl_X4_45 mPut_o rfl ?_
        refine v_if_le (tgt := 36) 31 dX4_of_31 (by decide) (fun c31 => ?_) (fun c31 => absurd (by rw [mI_s]; decide) c31)
        obtain ⟨b, hb, rfl⟩ : ∃ b : Nat, b < 2 ∧ which = nI b := by
          first
            | exact ⟨0, by decide, c2⟩
            | exact ⟨1, by decide, c7⟩
        rcases cgI_rng S F L.length b c with hc | ⟨g, hgl, hc⟩
        · refine v_aload_n 36 dX4_of_36 rfl rfl ?_
          refine v_iload_n 37 dX4_of_37 rfl rfl ?_
          refine v_iload_n 38 dX4_of_38 rfl rfl ?_
          refine m_call 39 [.int (nI b), .int c] dX4_of_39 cv_X4_129 (ct_chosenGlyph (S := mI S 0 0) (F := F) (G := L.length) hds hF hF2 hR.1 hR.2.1 hb) (fun r h' hq' => ?_)
          obtain ⟨rfl, f, rfl⟩ := hq'
          show V _ _ 42 _ [.int (cgI S F L.length b c)] _ _ _ _ _
          rw [hc]
          refine v_ist4 42 dX4_of_42 ?_
          refine v_aload_n 44 dX4_of_44 rfl rfl ?_
          refine v_iload 45 dX4_of_45 rfl ?_
          refine v_if_ge (tgt := 54) 47 dX4_of_47 (by decide) (fun c47 => absurd c47 (by decide)) (fun c47 => ?_)
          refine v_iconst (v := 2) 50 dX4_of_50 (by decide) ?_
          refine v_goto (tgt := 55) 51 dX4_of_51 (by decide) ?_
          refine m_put 55 dX4_of_55 fl_X4_45 ?_
          refine v_aload_n 58 dX4_of_58 rfl rfl ?_
          refine v_getf 59 dX4_of_59 fl_X4_45 mPut_o rfl ?_
          refine v_if_gt (tgt := 70) 62 dX4_of_62 (by decide) (fun c62 => ?_) (fun c62 => absurd (by rw [mI_s]; decide) c62)
          refine v_aload_n 70 dX4_of_70 rfl rfl ?_
          refine v_getf 71 dX4_of_71 fl_X4_45 mPut_o rfl ?_
          refine v_if_le (tgt := 81) 74 dX4_of_74 (by decide) (fun c74 => absurd c74 (by rw [mI_s]; decide)) (fun c74 => ?_)
          refine v_iconst (v := 0) 77 dX4_of_77 (by decide) ?_
          refine v_goto (tgt := 95) 78 dX4_of_78 (by decide) ?_
          refine v_iret 95 dX4_of_95 rfl rfl ?_
          refine ⟨_, _, rfl, rfl, Or.inr ⟨c11, c16, b, hb, rfl, Or.inl ⟨hc, rfl, f, ?_⟩⟩⟩
          exact mI_mI (mA S 19 f) 0 0 2
        · have hqg : L[g]? = some L[g] := List.getElem?_eq_getElem hgl
          have hL := hR.2.1
          have hok := hR.2.2.2.1 _ (List.getElem_mem hgl)
          obtain ⟨wn, hwn, rfl⟩ := nI_of2 (M := 5) (n := 5) rfl c11 c16
          have e7 : (7 : Int32) * nI g + 2 + nI wn = nI (7 * g + (2 + wn)) := by rw [m7, show (2 : Int32) = nI 2 from rfl, nI_add, nI_add, Nat.add_assoc]
          refine v_aload_n 36 dX4_of_36 rfl rfl ?_
          refine v_iload_n 37 dX4_of_37 rfl rfl ?_
          refine v_iload_n 38 dX4_of_38 rfl rfl ?_
          refine m_call 39 [.int (nI b), .int c] dX4_of_39 cv_X4_129 (ct_chosenGlyph (S := mI S 0 0) (F := F) (G := L.length) hds hF hF2 hR.1 hR.2.1 hb) (fun r h' hq' => ?_)
          obtain ⟨rfl, f, rfl⟩ := hq'
          show V _ _ 42 _ [.int (cgI S F L.length b c)] _ _ _ _ _
          rw [hc]
          refine v_ist4 42 dX4_of_42 ?_
          refine v_aload_n 44 dX4_of_44 rfl rfl ?_
          refine v_iload 45 dX4_of_45 rfl ?_
          refine v_if_ge (tgt := 54) 47 dX4_of_47 (by decide) (fun c47 => ?_) (fun c47 => absurd (nI_pos' (by omega)) c47)
          refine v_iconst (v := 0) 54 dX4_of_54 (by decide) ?_
          refine m_put 55 dX4_of_55 fl_X4_45 ?_
          refine v_aload_n 58 dX4_of_58 rfl rfl ?_
          refine v_getf 59 dX4_of_59 fl_X4_45 mPut_o rfl ?_
          refine v_if_gt (tgt := 70) 62 dX4_of_62 (by decide) (fun c62 => absurd c62 (by rw [mI_s]; decide)) (fun c62 => ?_)
          refine v_iload_n 65 dX4_of_65 rfl rfl ?_
          refine v_iconst (v := 5) 66 dX4_of_66 (by decide) ?_
          refine v_icmp_ge (tgt := 96) 67 dX4_of_67 (by decide) (fun c67 => ?_) (fun c67 => ?_)
          · refine v_iconst (v := 0) 96 dX4_of_96 (by decide) ?_
            refine v_ist5 97 dX4_of_97 ?_
            refine v_iconst (v := 0) 99 dX4_of_99 (by decide) ?_
            refine v_ist6 100 dX4_of_100 ?_
            obtain ⟨W, D, h1, h2, h3, h4, -, -⟩ := hok
            have hw5 : wn = 5 := by
              have := (nI_leI (a := 5) (by decide) (by omega)).mp c67
              omega
            subst hw5
            refine V.eq (lp_of2 (S := mI (mA (mI S 0 0) 19 f) 0 0) (W := W) (D := D) hds (gRep_congr hR rfl rfl rfl rfl) hqg h1 h2 h3 h4 ?_ D 0 none (by omega) rfl) rfl rfl rfl rfl
            exact ⟨_, _, rfl, rfl, Or.inr ⟨c11, c16, b, hb, rfl, Or.inr ⟨g, L[g], hc, hqg, ⟨f, mI_mI (mA S 19 f) 0 0 0⟩, Or.inr ⟨rfl, W, D, h1, h2, h3, h4, rfl⟩⟩⟩⟩
          · refine v_aload_n 70 dX4_of_70 rfl rfl ?_
            refine v_getf 71 dX4_of_71 fl_X4_45 mPut_o rfl ?_
            refine v_if_le (tgt := 81) 74 dX4_of_74 (by decide) (fun c74 => ?_) (fun c74 => absurd (by rw [mI_s]; decide) c74)
            refine v_aload_n 81 dX4_of_81 rfl rfl ?_
            refine v_getf 82 dX4_of_82 fl_X4_20 mPut_o rfl ?_
            refine v_bipush (v := 7) 85 dX4_of_85 (by decide) ?_
            refine v_iload 87 dX4_of_87 rfl ?_
            refine v_imul 89 dX4_of_89 ?_
            refine v_iconst (v := 2) 90 dX4_of_90 (by decide) ?_
            refine v_iadd 91 dX4_of_91 ?_
            refine v_iload_n 92 dX4_of_92 rfl rfl ?_
            refine v_iadd 93 dX4_of_93 ?_
            refine m_ild 94 6 dX4_of_94 hds (by rw [e7]; exact vp_in_nI (N := 1799) (by have : wn < 5 := Nat.lt_of_not_le (fun hh => c67 (nI_le (a := 5) hh (by omega))); omega) (by decide)) ?_
            refine v_iret 95 dX4_of_95 rfl rfl ?_
            have hw5 : wn < 5 := Nat.lt_of_not_le (fun hh => c67 (nI_le (a := 5) hh (by omega)))
            refine ⟨_, _, rfl, rfl, Or.inr ⟨c11, c16, b, hb, rfl, Or.inr ⟨g, L[g], hc, hqg, ⟨f, mI_mI (mA S 19 f) 0 0 0⟩, Or.inl ⟨c67, ?_⟩⟩⟩⟩
            rw [e7, nI_clamp (by omega), nI_clamp (by omega)]
            exact hR.2.2.1 g _ hqg (2 + wn) (by omega)
      · refine v_iconst (v := 1) 19 dX4_of_19 (by decide) ?_
        refine v_goto (tgt := 24) 20 dX4_of_20 (by decide) ?_
        refine m_put 24 dX4_of_24 fl_X4_45 ?_
        refine v_aload_n 27 dX4_of_27 rfl rfl ?_
        refine v_getf 28 dX4_of_28 fl_X4_45 mPut_o rfl ?_
        refine v_if_le (tgt := 36) 31 dX4_of_31 (by decide) (fun c31 => absurd c31 (by rw [mI_s]; decide)) (fun c31 => ?_)
        refine v_iconst (v := 0) 34 dX4_of_34 (by decide) ?_
        refine v_iret 35 dX4_of_35 rfl rfl ?_
        exact ⟨_, _, rfl, rfl, Or.inl ⟨Or.inr (Or.inr c16), rfl, rfl⟩⟩
  · refine v_iload_n 5 dX4_of_5 rfl rfl ?_
    refine v_iconst (v := 1) 6 dX4_of_6 (by decide) ?_
    refine v_icmp_ne (tgt := 19) 7 dX4_of_7 (by decide) (fun c7 => ?_) (fun c7 => ?_)
    · refine v_iconst (v := 1) 19 dX4_of_19 (by decide) ?_
      refine v_goto (tgt := 24) 20 dX4_of_20 (by decide) ?_
      refine m_put 24 dX4_of_24 fl_X4_45 ?_
      refine v_aload_n 27 dX4_of_27 rfl rfl ?_
      refine v_getf 28 dX4_of_28 fl_X4_45 mPut_o rfl ?_
      refine v_if_le (tgt := 36) 31 dX4_of_31 (by decide) (fun c31 => absurd c31 (by rw [mI_s]; decide)) (fun c31 => ?_)
      refine v_iconst (v := 0) 34 dX4_of_34 (by decide) ?_
      refine v_iret 35 dX4_of_35 rfl rfl ?_
      exact ⟨_, _, rfl, rfl, Or.inl ⟨Or.inl (fun q => q.elim c2 c7), rfl, rfl⟩⟩
    · refine v_iload_n 10 dX4_of_10 rfl rfl ?_
      refine v_if_lt (tgt := 19) 11 dX4_of_11 (by decide) (fun c11 => ?_) (fun c11 => ?_)
      · refine v_iconst (v := 1) 19 dX4_of_19 (by decide) ?_
        refine v_goto (tgt := 24) 20 dX4_of_20 (by decide) ?_
        refine m_put 24 dX4_of_24 fl_X4_45 ?_
        refine v_aload_n 27 dX4_of_27 rfl rfl ?_
        refine v_getf 28 dX4_of_28 fl_X4_45 mPut_o rfl ?_
        refine v_if_le (tgt := 36) 31 dX4_of_31 (by decide) (fun c31 => absurd c31 (by rw [mI_s]; decide)) (fun c31 => ?_)
        refine v_iconst (v := 0) 34 dX4_of_34 (by decide) ?_
        refine v_iret 35 dX4_of_35 rfl rfl ?_
        exact ⟨_, _, rfl, rfl, Or.inl ⟨Or.inr (Or.inl c11), rfl, rfl⟩⟩
      · refine v_iload_n 14 dX4_of_14 rfl rfl ?_
        refine v_iconst (v := 5) 15 dX4_of_15 (by decide) ?_
        refine v_icmp_le (tgt := 23) 16 dX4_of_16 (by decide) (fun c16 => ?_) (fun c16 => ?_)
        · refine v_iconst (v := 0) 23 dX4_of_23 (by decide) ?_
          refine m_put 24 dX4_of_24 fl_X4_45 ?_
          refine v_aload_n 27 dX4_of_27 rfl rfl ?_
          refine v_getf 28 dX4_of_28 fl_X4_45 mPut_o rfl ?_
          refine v_if_le (tgt := 36) 31 dX4_of_31 (by decide) (fun c31 => ?_) (fun c31 => absurd (by rw [mI_s]; decide) c31)
          obtain ⟨b, hb, rfl⟩ : ∃ b : Nat, b < 2 ∧ which = nI b := by
            first
              | exact ⟨0, by decide, c2⟩
              | exact ⟨1, by decide, c7⟩
          rcases cgI_rng S F L.length b c with hc | ⟨g, hgl, hc⟩
          · refine v_aload_n 36 dX4_of_36 rfl rfl ?_
            refine v_iload_n 37 dX4_of_37 rfl rfl ?_
            refine v_iload_n 38 dX4_of_38 rfl rfl ?_
            refine m_call 39 [.int (nI b), .int c] dX4_of_39 cv_X4_129 (ct_chosenGlyph (S := mI S 0 0) (F := F) (G := L.length) hds hF hF2 hR.1 hR.2.1 hb) (fun r h' hq' => ?_)
            obtain ⟨rfl, f, rfl⟩ := hq'
            show V _ _ 42 _ [.int (cgI S F L.length b c)] _ _ _ _ _
            rw [hc]
            refine v_ist4 42 dX4_of_42 ?_
            refine v_aload_n 44 dX4_of_44 rfl rfl ?_
            refine v_iload 45 dX4_of_45 rfl ?_
            refine v_if_ge (tgt := 54) 47 dX4_of_47 (by decide) (fun c47 => absurd c47 (by decide)) (fun c47 => ?_)
            refine v_iconst (v := 2) 50 dX4_of_50 (by decide) ?_
            refine v_goto (tgt := 55) 51 dX4_of_51 (by decide) ?_
            refine m_put 55 dX4_of_55 fl_X4_45 ?_
            refine v_aload_n 58 dX4_of_58 rfl rfl ?_
            refine v_getf 59 dX4_of_59 fl_X4_45 mPut_o rfl ?_
            refine v_if_gt (tgt := 70) 62 dX4_of_62 (by decide) (fun c62 => ?_) (fun c62 => absurd (by rw [mI_s]; decide) c62)
            refine v_aload_n 70 dX4_of_70 rfl rfl ?_
            refine v_getf 71 dX4_of_71 fl_X4_45 mPut_o rfl ?_
            refine v_if_le (tgt := 81) 74 dX4_of_74 (by decide) (fun c74 => absurd c74 (by rw [mI_s]; decide)) (fun c74 => ?_)
            refine v_iconst (v := 0) 77 dX4_of_77 (by decide) ?_
            refine v_goto (tgt := 95) 78 dX4_of_78 (by decide) ?_
            refine v_iret 95 dX4_of_95 rfl rfl ?_
            refine ⟨_, _, rfl, rfl, Or.inr ⟨c11, c16, b, hb, rfl, Or.inl ⟨hc, rfl, f, ?_⟩⟩⟩
            exact mI_mI (mA S 19 f) 0 0 2
          · have hqg : L[g]? = some L[g] := List.getElem?_eq_getElem hgl
            have hL := hR.2.1
            have hok := hR.2.2.2.1 _ (List.getElem_mem hgl)
            obtain ⟨wn, hwn, rfl⟩ := nI_of2 (M := 5) (n := 5) rfl c11 c16
            have e7 : (7 : Int32) * nI g + 2 + nI wn = nI (7 * g + (2 + wn)) := by rw [m7, show (2 : Int32) = nI 2 from rfl, nI_add, nI_add, Nat.add_assoc]
            refine v_aload_n 36 dX4_of_36 rfl rfl ?_
            refine v_iload_n 37 dX4_of_37 rfl rfl ?_
            refine v_iload_n 38 dX4_of_38 rfl rfl ?_
            refine m_call 39 [.int (nI b), .int c] dX4_of_39 cv_X4_129 (ct_chosenGlyph (S := mI S 0 0) (F := F) (G := L.length) hds hF hF2 hR.1 hR.2.1 hb) (fun r h' hq' => ?_)
            obtain ⟨rfl, f, rfl⟩ := hq'
            show V _ _ 42 _ [.int (cgI S F L.length b c)] _ _ _ _ _
            rw [hc]
            refine v_ist4 42 dX4_of_42 ?_
            refine v_aload_n 44 dX4_of_44 rfl rfl ?_
            refine v_iload 45 dX4_of_45 rfl ?_
            refine v_if_ge (tgt := 54) 47 dX4_of_47 (by decide) (fun c47 => ?_) (fun c47 => absurd (nI_pos' (by omega)) c47)
            refine v_iconst (v := 0) 54 dX4_of_54 (by decide) ?_
            refine m_put 55 dX4_of_55 fl_X4_45 ?_
            refine v_aload_n 58 dX4_of_58 rfl rfl ?_
            refine v_getf 59 dX4_of_59 fl_X4_45 mPut_o rfl ?_
            refine v_if_gt (tgt := 70) 62 dX4_of_62 (by decide) (fun c62 => absurd c62 (by rw [mI_s]; decide)) (fun c62 => ?_)
            refine v_iload_n 65 dX4_of_65 rfl rfl ?_
            refine v_iconst (v := 5) 66 dX4_of_66 (by decide) ?_
            refine v_icmp_ge (tgt := 96) 67 dX4_of_67 (by decide) (fun c67 => ?_) (fun c67 => ?_)
            · refine v_iconst (v := 0) 96 dX4_of_96 (by decide) ?_
              refine v_ist5 97 dX4_of_97 ?_
              refine v_iconst (v := 0) 99 dX4_of_99 (by decide) ?_
              refine v_ist6 100 dX4_of_100 ?_
              obtain ⟨W, D, h1, h2, h3, h4, -, -⟩ := hok
              have hw5 : wn = 5 := by
                have := (nI_leI (a := 5) (by decide) (by omega)).mp c67
                omega
              subst hw5
              refine V.eq (lp_of2 (S := mI (mA (mI S 0 0) 19 f) 0 0) (W := W) (D := D) hds (gRep_congr hR rfl rfl rfl rfl) hqg h1 h2 h3 h4 ?_ D 0 none (by omega) rfl) rfl rfl rfl rfl
              exact ⟨_, _, rfl, rfl, Or.inr ⟨c11, c16, b, hb, rfl, Or.inr ⟨g, L[g], hc, hqg, ⟨f, mI_mI (mA S 19 f) 0 0 0⟩, Or.inr ⟨rfl, W, D, h1, h2, h3, h4, rfl⟩⟩⟩⟩
            · refine v_aload_n 70 dX4_of_70 rfl rfl ?_
              refine v_getf 71 dX4_of_71 fl_X4_45 mPut_o rfl ?_
              refine v_if_le (tgt := 81) 74 dX4_of_74 (by decide) (fun c74 => ?_) (fun c74 => absurd (by rw [mI_s]; decide) c74)
              refine v_aload_n 81 dX4_of_81 rfl rfl ?_
              refine v_getf 82 dX4_of_82 fl_X4_20 mPut_o rfl ?_
              refine v_bipush (v := 7) 85 dX4_of_85 (by decide) ?_
              refine v_iload 87 dX4_of_87 rfl ?_
              refine v_imul 89 dX4_of_89 ?_
              refine v_iconst (v := 2) 90 dX4_of_90 (by decide) ?_
              refine v_iadd 91 dX4_of_91 ?_
              refine v_iload_n 92 dX4_of_92 rfl rfl ?_
              refine v_iadd 93 dX4_of_93 ?_
              refine m_ild 94 6 dX4_of_94 hds (by rw [e7]; exact vp_in_nI (N := 1799) (by have : wn < 5 := Nat.lt_of_not_le (fun hh => c67 (nI_le (a := 5) hh (by omega))); omega) (by decide)) ?_
              refine v_iret 95 dX4_of_95 rfl rfl ?_
              have hw5 : wn < 5 := Nat.lt_of_not_le (fun hh => c67 (nI_le (a := 5) hh (by omega)))
              refine ⟨_, _, rfl, rfl, Or.inr ⟨c11, c16, b, hb, rfl, Or.inr ⟨g, L[g], hc, hqg, ⟨f, mI_mI (mA S 19 f) 0 0 0⟩, Or.inl ⟨c67, ?_⟩⟩⟩⟩
              rw [e7, nI_clamp (by omega), nI_clamp (by omega)]
              exact hR.2.2.1 g _ hqg (2 + wn) (by omega)
        · refine v_iconst (v := 1) 19 dX4_of_19 (by decide) ?_
          refine v_goto (tgt := 24) 20 dX4_of_20 (by decide) ?_
          refine m_put 24 dX4_of_24 fl_X4_45 ?_
          refine v_aload_n 27 dX4_of_27 rfl rfl ?_
          refine v_getf 28 dX4_of_28 fl_X4_45 mPut_o rfl ?_
          refine v_if_le (tgt := 36) 31 dX4_of_31 (by decide) (fun c31 => absurd c31 (by rw [mI_s]; decide)) (fun c31 => ?_)
          refine v_iconst (v := 0) 34 dX4_of_34 (by decide) ?_
          refine v_iret 35 dX4_of_35 rfl rfl ?_
          exact ⟨_, _, rfl, rfl, Or.inl ⟨Or.inr (Or.inr c16), rfl, rfl⟩⟩
set_option maxHeartbeats 4000000 in
set_option maxRecDepth 100000 in
theorem lp_row {K : KT} {h : AH} {mo : Nat} {ad : Nat → Nat} {S : MS} {L : List GL} {g W D : Nat} {q : GL} (hds : mDis mo ad) (hR : gRep S L) (hg : L[g]? = some q) (hW : q.1 4 = nI W) (hD : q.1 5 = nI D) (hW2 : W ≤ 128) (hD2 : D ≤ 128) {b c k : Int32} {y : Nat} (hy : y < D) {Q : QR} {X : QX} (hq : Q (some (.long (roI q W y k 64))) (mPut h mo ad S)) : ∀ (t i : Nat) (z : Option Value), i + t = 64 → oc1 z = true → V K mX4_row 61 [some (.ref mo), some (.int b), some (.int c), some (.int (nI y)), some (.int k), some (.int (nI g)), some (.long (roI q W y k i)), none, some (.int (nI i)), z] [] (mPut h mo ad S) 0 0 Q X := by
  have hgl : g < L.length := (List.getElem?_eq_some_iff.mp hg).1
  have hL := hR.2.1
  have e4 : (7 : Int32) * nI g + 4 = nI (7 * g + 4) := by rw [m7]; exact m7a g 4
  have e5 : (7 : Int32) * nI g + 5 = nI (7 * g + 5) := by rw [m7]; exact m7a g 5
  have eW : S.2 6 ((7 : Int32) * nI g + 4).toNatClampNeg = nI W := by rw [e4, nI_clamp (by omega), hR.2.2.1 g q hg 4 (by decide), hW]
  have eD : S.2 6 ((7 : Int32) * nI g + 5).toNatClampNeg = nI D := by rw [e5, nI_clamp (by omega), hR.2.2.1 g q hg 5 (by decide), hD]
  have i4 : vp_in ((7 : Int32) * nI g + 4) 1799 := by rw [e4]; exact vp_in_nI (N := 1799) (by omega) (by decide)
  have i5 : vp_in ((7 : Int32) * nI g + 5) 1799 := by rw [e5]; exact vp_in_nI (N := 1799) (by omega) (by decide)
  intro t
  induction t with
  | zero =>
    intro i z hi hz
    have hi64 : i = 64 := by omega
    subst hi64
    refine v_iload 61 dX4_row_61 rfl ?_
    refine v_bipush (v := 64) 63 dX4_row_63 (by decide) ?_
    refine v_icmp_ge (tgt := 159) 65 dX4_row_65 (by decide) (fun c65 => ?_) (fun c65 => absurd (by decide) c65)
    refine v_lload 159 dX4_row_159 rfl ?_
    refine v_lret 161 dX4_row_161 rfl ?_
    exact hq
  | succ t ih =>
    intro i z hi hz
    have hth : ¬ k < 0 → ¬ 2 ≤ k → ¬ nI W ≤ 64 * k + nI i → ∃ x : Nat, x < W ∧ 64 * k + nI i = nI x := by
      intro h1 h2 h3
      obtain ⟨kn, hkn, rfl⟩ := nI_of h1
      have hk2 : kn < 2 := Nat.lt_of_not_le (fun hh => h2 (nI_le (a := 2) hh (by omega)))
      have e : (64 : Int32) * nI kn + nI i = nI (64 * kn + i) := by rw [show (64 : Int32) = nI 64 from rfl, pk_mul, nI_add]
      exact ⟨64 * kn + i, Nat.lt_of_not_le (fun hh => h3 (by rw [e]; exact nI_le hh (by omega))), e⟩
    refine v_iload 61 dX4_row_61 rfl ?_
    refine v_bipush (v := 64) 63 dX4_row_63 (by decide) ?_
    refine v_icmp_ge (tgt := 159) 65 dX4_row_65 (by decide) (fun c65 => absurd c65 (nI_ge (b := 64) (by omega) (by decide))) (fun c65 => ?_)
    refine v_iload 68 dX4_row_68 rfl ?_
    refine v_if_lt (tgt := 106) 70 dX4_row_70 (by decide) (fun c70 => ?_) (fun c70 => ?_)
    · refine v_iconst (v := 0) 106 dX4_row_106 (by decide) ?_
      refine v_ist9 107 dX4_row_107 ?_
      refine v_lload 109 dX4_row_109 rfl ?_
      refine v_iconst (v := 1) 111 dX4_row_111 (by decide) ?_
      refine v_lshl 112 dX4_row_112 rfl ?_
      refine v_iload 113 dX4_row_113 rfl ?_
      refine v_if_eq (tgt := 149) 115 dX4_row_115 (by decide) (fun c115 => ?_) (fun c115 => absurd (rfl) c115)
      refine v_lconst (v := 0) 149 dX4_row_149 (by decide) ?_
      refine v_lor 150 dX4_row_150 ?_
      refine v_lst6 151 dX4_row_151 ?_
      refine v_inc8 (y := 1) 153 dX4_row_153 (by decide) ?_
      refine v_goto (tgt := 61) 156 dX4_row_156 (by decide) ?_
      first
        | (refine V.eq (ih (i + 1) (some (.int 0)) (by omega) rfl) rfl ?_ rfl rfl; rw [← nI_1, roI, if_neg (fun p => p.1 c70)] <;> rfl)
        | (refine V.eq (ih (i + 1) (some (.int 0)) (by omega) rfl) rfl ?_ rfl rfl; rw [← nI_1, roI, if_neg (fun p => p.2.1 c76)] <;> rfl)
        | (refine V.eq (ih (i + 1) (some (.int 0)) (by omega) rfl) rfl ?_ rfl rfl; rw [← nI_1, roI, if_neg (fun p => p.2.2.1 c99)] <;> rfl)
        | (refine V.eq (ih (i + 1) (some (.int 1)) (by omega) rfl) rfl ?_ rfl rfl; rw [← nI_1, roI, if_neg (fun p => absurd c142 (by have := p.2.2.2; rw [ex, nI_clamp (by omega)] at this; rw [this]; decide))] <;> rfl)
        | (refine V.eq (ih (i + 1) (some (.int 1)) (by omega) rfl) rfl ?_ rfl rfl; rw [← nI_1, roI, if_pos ⟨c70, c76, c99, by rw [ex, nI_clamp (by omega)]; exact bI_n c142⟩] <;> rfl)
    · refine v_iload 73 dX4_row_73 rfl ?_
      refine v_iconst (v := 2) 75 dX4_row_75 (by decide) ?_
      refine v_icmp_ge (tgt := 106) 76 dX4_row_76 (by decide) (fun c76 => ?_) (fun c76 => ?_)
      · refine v_iconst (v := 0) 106 dX4_row_106 (by decide) ?_
        refine v_ist9 107 dX4_row_107 ?_
        refine v_lload 109 dX4_row_109 rfl ?_
        refine v_iconst (v := 1) 111 dX4_row_111 (by decide) ?_
        refine v_lshl 112 dX4_row_112 rfl ?_
        refine v_iload 113 dX4_row_113 rfl ?_
        refine v_if_eq (tgt := 149) 115 dX4_row_115 (by decide) (fun c115 => ?_) (fun c115 => absurd (rfl) c115)
        refine v_lconst (v := 0) 149 dX4_row_149 (by decide) ?_
        refine v_lor 150 dX4_row_150 ?_
        refine v_lst6 151 dX4_row_151 ?_
        refine v_inc8 (y := 1) 153 dX4_row_153 (by decide) ?_
        refine v_goto (tgt := 61) 156 dX4_row_156 (by decide) ?_
        first
          | (refine V.eq (ih (i + 1) (some (.int 0)) (by omega) rfl) rfl ?_ rfl rfl; rw [← nI_1, roI, if_neg (fun p => p.1 c70)] <;> rfl)
          | (refine V.eq (ih (i + 1) (some (.int 0)) (by omega) rfl) rfl ?_ rfl rfl; rw [← nI_1, roI, if_neg (fun p => p.2.1 c76)] <;> rfl)
          | (refine V.eq (ih (i + 1) (some (.int 0)) (by omega) rfl) rfl ?_ rfl rfl; rw [← nI_1, roI, if_neg (fun p => p.2.2.1 c99)] <;> rfl)
          | (refine V.eq (ih (i + 1) (some (.int 1)) (by omega) rfl) rfl ?_ rfl rfl; rw [← nI_1, roI, if_neg (fun p => absurd c142 (by have := p.2.2.2; rw [ex, nI_clamp (by omega)] at this; rw [this]; decide))] <;> rfl)
          | (refine V.eq (ih (i + 1) (some (.int 1)) (by omega) rfl) rfl ?_ rfl rfl; rw [← nI_1, roI, if_pos ⟨c70, c76, c99, by rw [ex, nI_clamp (by omega)]; exact bI_n c142⟩] <;> rfl)
      · refine v_bipush (v := 64) 79 dX4_row_79 (by decide) ?_
        refine v_iload 81 dX4_row_81 rfl ?_
        refine v_imul 83 dX4_row_83 ?_
        refine v_iload 84 dX4_row_84 rfl ?_
        refine v_iadd 86 dX4_row_86 ?_
        refine v_aload_n 87 dX4_row_87 rfl rfl ?_
        refine v_getf 88 dX4_row_88 fl_X4_20 mPut_o rfl ?_
        refine v_bipush (v := 7) 91 dX4_row_91 (by decide) ?_
        refine v_iload 93 dX4_row_93 rfl ?_
        refine v_imul 95 dX4_row_95 ?_
        refine v_iconst (v := 4) 96 dX4_row_96 (by decide) ?_
        refine v_iadd 97 dX4_row_97 ?_
        refine m_ild 98 6 dX4_row_98 hds i4 ?_
        rw [eW]
        refine v_icmp_ge (tgt := 106) 99 dX4_row_99 (by decide) (fun c99 => ?_) (fun c99 => ?_)
        · refine v_iconst (v := 0) 106 dX4_row_106 (by decide) ?_
          refine v_ist9 107 dX4_row_107 ?_
          refine v_lload 109 dX4_row_109 rfl ?_
          refine v_iconst (v := 1) 111 dX4_row_111 (by decide) ?_
          refine v_lshl 112 dX4_row_112 rfl ?_
          refine v_iload 113 dX4_row_113 rfl ?_
          refine v_if_eq (tgt := 149) 115 dX4_row_115 (by decide) (fun c115 => ?_) (fun c115 => absurd (rfl) c115)
          refine v_lconst (v := 0) 149 dX4_row_149 (by decide) ?_
          refine v_lor 150 dX4_row_150 ?_
          refine v_lst6 151 dX4_row_151 ?_
          refine v_inc8 (y := 1) 153 dX4_row_153 (by decide) ?_
          refine v_goto (tgt := 61) 156 dX4_row_156 (by decide) ?_
          first
            | (refine V.eq (ih (i + 1) (some (.int 0)) (by omega) rfl) rfl ?_ rfl rfl; rw [← nI_1, roI, if_neg (fun p => p.1 c70)] <;> rfl)
            | (refine V.eq (ih (i + 1) (some (.int 0)) (by omega) rfl) rfl ?_ rfl rfl; rw [← nI_1, roI, if_neg (fun p => p.2.1 c76)] <;> rfl)
            | (refine V.eq (ih (i + 1) (some (.int 0)) (by omega) rfl) rfl ?_ rfl rfl; rw [← nI_1, roI, if_neg (fun p => p.2.2.1 c99)] <;> rfl)
            | (refine V.eq (ih (i + 1) (some (.int 1)) (by omega) rfl) rfl ?_ rfl rfl; rw [← nI_1, roI, if_neg (fun p => absurd c142 (by have := p.2.2.2; rw [ex, nI_clamp (by omega)] at this; rw [this]; decide))] <;> rfl)
            | (refine V.eq (ih (i + 1) (some (.int 1)) (by omega) rfl) rfl ?_ rfl rfl; rw [← nI_1, roI, if_pos ⟨c70, c76, c99, by rw [ex, nI_clamp (by omega)]; exact bI_n c142⟩] <;> rfl)
        · refine v_iconst (v := 1) 102 dX4_row_102 (by decide) ?_
          refine v_goto (tgt := 107) 103 dX4_row_103 (by decide) ?_
          refine v_ist9 107 dX4_row_107 ?_
          refine v_lload 109 dX4_row_109 rfl ?_
          refine v_iconst (v := 1) 111 dX4_row_111 (by decide) ?_
          refine v_lshl 112 dX4_row_112 rfl ?_
          refine v_iload 113 dX4_row_113 rfl ?_
          refine v_if_eq (tgt := 149) 115 dX4_row_115 (by decide) (fun c115 => absurd c115 (by decide)) (fun c115 => ?_)
          refine v_aload_n 118 dX4_row_118 rfl rfl ?_
          refine v_iload 119 dX4_row_119 rfl ?_
          refine v_iload 121 dX4_row_121 rfl ?_
          refine v_if_eq (tgt := 137) 123 dX4_row_123 (by decide) (fun c123 => absurd c123 (by decide)) (fun c123 => ?_)
          refine v_bipush (v := 64) 126 dX4_row_126 (by decide) ?_
          refine v_iload 128 dX4_row_128 rfl ?_
          refine v_imul 130 dX4_row_130 ?_
          refine v_iload 131 dX4_row_131 rfl ?_
          refine v_iadd 133 dX4_row_133 ?_
          refine v_goto (tgt := 138) 134 dX4_row_134 (by decide) ?_
          refine v_iload_n 138 dX4_row_138 rfl rfl ?_
          obtain ⟨x, hxW, ex⟩ := hth c70 c76 c99
          rw [ex]
          refine m_call 139 [.int (nI g), .int (nI x), .int (nI y)] dX4_row_139 cv_X4_132 (ct_isBlack hds hR hg hW hD hW2 hD2 hxW hy) (fun r h' hq' => ?_)
          obtain ⟨rfl, rfl⟩ := hq'
          refine v_if_eq (tgt := 149) 142 dX4_row_142 (by decide) (fun c142 => ?_) (fun c142 => ?_)
          · refine v_lconst (v := 0) 149 dX4_row_149 (by decide) ?_
            refine v_lor 150 dX4_row_150 ?_
            refine v_lst6 151 dX4_row_151 ?_
            refine v_inc8 (y := 1) 153 dX4_row_153 (by decide) ?_
            refine v_goto (tgt := 61) 156 dX4_row_156 (by decide) ?_
            first
              | (refine V.eq (ih (i + 1) (some (.int 0)) (by omega) rfl) rfl ?_ rfl rfl; rw [← nI_1, roI, if_neg (fun p => p.1 c70)] <;> rfl)
              | (refine V.eq (ih (i + 1) (some (.int 0)) (by omega) rfl) rfl ?_ rfl rfl; rw [← nI_1, roI, if_neg (fun p => p.2.1 c76)] <;> rfl)
              | (refine V.eq (ih (i + 1) (some (.int 0)) (by omega) rfl) rfl ?_ rfl rfl; rw [← nI_1, roI, if_neg (fun p => p.2.2.1 c99)] <;> rfl)
              | (refine V.eq (ih (i + 1) (some (.int 1)) (by omega) rfl) rfl ?_ rfl rfl; rw [← nI_1, roI, if_neg (fun p => absurd c142 (by have := p.2.2.2; rw [ex, nI_clamp (by omega)] at this; rw [this]; decide))] <;> rfl)
              | (refine V.eq (ih (i + 1) (some (.int 1)) (by omega) rfl) rfl ?_ rfl rfl; rw [← nI_1, roI, if_pos ⟨c70, c76, c99, by rw [ex, nI_clamp (by omega)]; exact bI_n c142⟩] <;> rfl)
          · refine v_lconst (v := 1) 145 dX4_row_145 (by decide) ?_
            refine v_goto (tgt := 150) 146 dX4_row_146 (by decide) ?_
            refine v_lor 150 dX4_row_150 ?_
            refine v_lst6 151 dX4_row_151 ?_
            refine v_inc8 (y := 1) 153 dX4_row_153 (by decide) ?_
            refine v_goto (tgt := 61) 156 dX4_row_156 (by decide) ?_
            first
              | (refine V.eq (ih (i + 1) (some (.int 0)) (by omega) rfl) rfl ?_ rfl rfl; rw [← nI_1, roI, if_neg (fun p => p.1 c70)] <;> rfl)
              | (refine V.eq (ih (i + 1) (some (.int 0)) (by omega) rfl) rfl ?_ rfl rfl; rw [← nI_1, roI, if_neg (fun p => p.2.1 c76)] <;> rfl)
              | (refine V.eq (ih (i + 1) (some (.int 0)) (by omega) rfl) rfl ?_ rfl rfl; rw [← nI_1, roI, if_neg (fun p => p.2.2.1 c99)] <;> rfl)
              | (refine V.eq (ih (i + 1) (some (.int 1)) (by omega) rfl) rfl ?_ rfl rfl; rw [← nI_1, roI, if_neg (fun p => absurd c142 (by have := p.2.2.2; rw [ex, nI_clamp (by omega)] at this; rw [this]; decide))] <;> rfl)
              | (refine V.eq (ih (i + 1) (some (.int 1)) (by omega) rfl) rfl ?_ rfl rfl; rw [← nI_1, roI, if_pos ⟨c70, c76, c99, by rw [ex, nI_clamp (by omega)]; exact bI_n c142⟩] <;> rfl)
set_option maxHeartbeats 4000000 in
set_option maxRecDepth 100000 in
theorem ct_row {K : KT} {h : AH} {mo : Nat} {ad : Nat → Nat} {S : MS} {L : List GL} {F : Nat} {which c j k : Int32} (hds : mDis mo ad) (hR : gRep S L) (hF : S.1 1 = nI F) (hF2 : F ≤ 32) : Ct K mX4_row 0 0 [.ref mo, .int which, .int c, .int j, .int k] (mPut h mo ad S) (fun r h' => ∃ (v : Int64) (S' : MS), r = some (.long v) ∧ h' = mPut h mo ad S' ∧ rowR S F L which c j k S' v) noX := by
  refine ct_of (by decide +kernel) rfl (Nat.le_of_ble_eq_true rfl) rfl ?_
  refine v_aload_n 0 dX4_row_0 rfl rfl ?_
  refine v_iconst (v := 0) 1 dX4_row_1 (by decide) ?_
  refine m_put 2 dX4_row_2 fl_X4_45 ?_
  refine v_iload_n 5 dX4_row_5 rfl rfl ?_
  refine v_if_eq (tgt := 14) 6 dX4_row_6 (by decide) (fun c6 => ?_) (fun c6 => ?_)
  · obtain ⟨b, hb, rfl⟩ : ∃ b : Nat, b < 2 ∧ which = nI b := by
      first
        | exact ⟨0, by decide, c6⟩
        | exact ⟨1, by decide, c11⟩
    rcases cgI_rng S F L.length b c with hc | ⟨g, hgl, hc⟩
    · refine v_aload_n 14 dX4_row_14 rfl rfl ?_
      refine v_iload_n 15 dX4_row_15 rfl rfl ?_
      refine v_iload_n 16 dX4_row_16 rfl rfl ?_
      refine m_call 17 [.int (nI b), .int c] dX4_row_17 cv_X4_129 (ct_chosenGlyph (S := mI S 0 0) (F := F) (G := L.length) hds hF hF2 hR.1 hR.2.1 hb) (fun r h' hq' => ?_)
      obtain ⟨rfl, f, rfl⟩ := hq'
      show V _ _ 20 _ [.int (cgI S F L.length b c)] _ _ _ _ _
      rw [hc]
      refine v_goto (tgt := 24) 20 dX4_row_20 (by decide) ?_
      refine v_ist5 24 dX4_row_24 ?_
      refine v_iload 26 dX4_row_26 rfl ?_
      refine v_if_ge (tgt := 33) 28 dX4_row_28 (by decide) (fun c28 => absurd c28 (by decide)) (fun c28 => ?_)
      refine v_lconst (v := 0) 31 dX4_row_31 (by decide) ?_
      refine v_lret 32 dX4_row_32 rfl ?_
      exact ⟨_, _, rfl, rfl, Or.inr ⟨b, hb, rfl, ⟨f, rfl⟩, Or.inl ⟨hc, rfl⟩⟩⟩
    · have hqg : L[g]? = some L[g] := List.getElem?_eq_getElem hgl
      have hL := hR.2.1
      have hok := hR.2.2.2.1 _ (List.getElem_mem hgl)
      obtain ⟨W, D, h1, h2, h3, h4, -, -⟩ := hok
      have e5 : (7 : Int32) * nI g + 5 = nI (7 * g + 5) := by rw [m7]; exact m7a g 5
      have eD : S.2 6 ((7 : Int32) * nI g + 5).toNatClampNeg = nI D := by rw [e5, nI_clamp (by omega), hR.2.2.1 g _ hqg 5 (by decide), h2]
      have i5 : vp_in ((7 : Int32) * nI g + 5) 1799 := by rw [e5]; exact vp_in_nI (N := 1799) (by omega) (by decide)
      refine v_aload_n 14 dX4_row_14 rfl rfl ?_
      refine v_iload_n 15 dX4_row_15 rfl rfl ?_
      refine v_iload_n 16 dX4_row_16 rfl rfl ?_
      refine m_call 17 [.int (nI b), .int c] dX4_row_17 cv_X4_129 (ct_chosenGlyph (S := mI S 0 0) (F := F) (G := L.length) hds hF hF2 hR.1 hR.2.1 hb) (fun r h' hq' => ?_)
      obtain ⟨rfl, f, rfl⟩ := hq'
      show V _ _ 20 _ [.int (cgI S F L.length b c)] _ _ _ _ _
      rw [hc]
      refine v_goto (tgt := 24) 20 dX4_row_20 (by decide) ?_
      refine v_ist5 24 dX4_row_24 ?_
      refine v_iload 26 dX4_row_26 rfl ?_
      refine v_if_ge (tgt := 33) 28 dX4_row_28 (by decide) (fun c28 => ?_) (fun c28 => absurd (nI_pos' (by omega)) c28)
      refine v_iload_n 33 dX4_row_33 rfl rfl ?_
      refine v_if_lt (tgt := 53) 34 dX4_row_34 (by decide) (fun c34 => ?_) (fun c34 => ?_)
      · refine v_lconst (v := 0) 53 dX4_row_53 (by decide) ?_
        refine v_lret 54 dX4_row_54 rfl ?_
        exact ⟨_, _, rfl, rfl, Or.inr ⟨b, hb, rfl, ⟨f, rfl⟩, Or.inr ⟨g, L[g], W, D, hc, hqg, h1, h2, h3, h4, Or.inl ⟨Or.inl c34, rfl⟩⟩⟩⟩
      · refine v_iload_n 37 dX4_row_37 rfl rfl ?_
        refine v_aload_n 38 dX4_row_38 rfl rfl ?_
        refine v_getf 39 dX4_row_39 fl_X4_20 mPut_o rfl ?_
        refine v_bipush (v := 7) 42 dX4_row_42 (by decide) ?_
        refine v_iload 44 dX4_row_44 rfl ?_
        refine v_imul 46 dX4_row_46 ?_
        refine v_iconst (v := 5) 47 dX4_row_47 (by decide) ?_
        refine v_iadd 48 dX4_row_48 ?_
        refine m_ild 49 6 dX4_row_49 hds i5 ?_
        rw [show (mA (mI S 0 0) 19 f).2 6 ((7 : Int32) * nI g + 5).toNatClampNeg = nI D from eD]
        refine v_icmp_lt (tgt := 55) 50 dX4_row_50 (by decide) (fun c50 => ?_) (fun c50 => ?_)
        · refine v_lconst (v := 0) 55 dX4_row_55 (by decide) ?_
          refine v_lst6 56 dX4_row_56 ?_
          refine v_iconst (v := 0) 58 dX4_row_58 (by decide) ?_
          refine v_ist8 59 dX4_row_59 ?_
          obtain ⟨y, hy31, rfl⟩ := nI_of c34
          have hyD : y < D := (nI_ltI (by omega) (by omega)).mp c50
          refine V.eq (lp_row (S := mA (mI S 0 0) 19 f) (W := W) (D := D) (q := L[g]) (k := k) (y := y) hds (gRep_congr hR rfl rfl rfl rfl) hqg h1 h2 h3 h4 hyD ?_ 64 0 none (by omega) rfl) rfl rfl rfl rfl
          exact ⟨_, _, rfl, rfl, Or.inr ⟨b, hb, rfl, ⟨f, rfl⟩, Or.inr ⟨g, L[g], W, D, hc, hqg, h1, h2, h3, h4, Or.inr ⟨y, rfl, hyD, rfl⟩⟩⟩⟩
        · refine v_lconst (v := 0) 53 dX4_row_53 (by decide) ?_
          refine v_lret 54 dX4_row_54 rfl ?_
          exact ⟨_, _, rfl, rfl, Or.inr ⟨b, hb, rfl, ⟨f, rfl⟩, Or.inr ⟨g, L[g], W, D, hc, hqg, h1, h2, h3, h4, Or.inl ⟨Or.inr (Int32.not_lt.mp c50), rfl⟩⟩⟩⟩
  · refine v_iload_n 9 dX4_row_9 rfl rfl ?_
    refine v_iconst (v := 1) 10 dX4_row_10 (by decide) ?_
    refine v_icmp_ne (tgt := 23) 11 dX4_row_11 (by decide) (fun c11 => ?_) (fun c11 => ?_)
    · refine v_iconst (v := -1) 23 dX4_row_23 (by decide) ?_
      refine v_ist5 24 dX4_row_24 ?_
      refine v_iload 26 dX4_row_26 rfl ?_
      refine v_if_ge (tgt := 33) 28 dX4_row_28 (by decide) (fun c28 => absurd c28 (by decide)) (fun c28 => ?_)
      refine v_lconst (v := 0) 31 dX4_row_31 (by decide) ?_
      refine v_lret 32 dX4_row_32 rfl ?_
      exact ⟨_, _, rfl, rfl, Or.inl ⟨fun q => q.elim c6 c11, rfl, rfl⟩⟩
    · obtain ⟨b, hb, rfl⟩ : ∃ b : Nat, b < 2 ∧ which = nI b := by
        first
          | exact ⟨0, by decide, c6⟩
          | exact ⟨1, by decide, c11⟩
      rcases cgI_rng S F L.length b c with hc | ⟨g, hgl, hc⟩
      · refine v_aload_n 14 dX4_row_14 rfl rfl ?_
        refine v_iload_n 15 dX4_row_15 rfl rfl ?_
        refine v_iload_n 16 dX4_row_16 rfl rfl ?_
        refine m_call 17 [.int (nI b), .int c] dX4_row_17 cv_X4_129 (ct_chosenGlyph (S := mI S 0 0) (F := F) (G := L.length) hds hF hF2 hR.1 hR.2.1 hb) (fun r h' hq' => ?_)
        obtain ⟨rfl, f, rfl⟩ := hq'
        show V _ _ 20 _ [.int (cgI S F L.length b c)] _ _ _ _ _
        rw [hc]
        refine v_goto (tgt := 24) 20 dX4_row_20 (by decide) ?_
        refine v_ist5 24 dX4_row_24 ?_
        refine v_iload 26 dX4_row_26 rfl ?_
        refine v_if_ge (tgt := 33) 28 dX4_row_28 (by decide) (fun c28 => absurd c28 (by decide)) (fun c28 => ?_)
        refine v_lconst (v := 0) 31 dX4_row_31 (by decide) ?_
        refine v_lret 32 dX4_row_32 rfl ?_
        exact ⟨_, _, rfl, rfl, Or.inr ⟨b, hb, rfl, ⟨f, rfl⟩, Or.inl ⟨hc, rfl⟩⟩⟩
      · have hqg : L[g]? = some L[g] := List.getElem?_eq_getElem hgl
        have hL := hR.2.1
        have hok := hR.2.2.2.1 _ (List.getElem_mem hgl)
        obtain ⟨W, D, h1, h2, h3, h4, -, -⟩ := hok
        have e5 : (7 : Int32) * nI g + 5 = nI (7 * g + 5) := by rw [m7]; exact m7a g 5
        have eD : S.2 6 ((7 : Int32) * nI g + 5).toNatClampNeg = nI D := by rw [e5, nI_clamp (by omega), hR.2.2.1 g _ hqg 5 (by decide), h2]
        have i5 : vp_in ((7 : Int32) * nI g + 5) 1799 := by rw [e5]; exact vp_in_nI (N := 1799) (by omega) (by decide)
        refine v_aload_n 14 dX4_row_14 rfl rfl ?_
        refine v_iload_n 15 dX4_row_15 rfl rfl ?_
        refine v_iload_n 16 dX4_row_16 rfl rfl ?_
        refine m_call 17 [.int (nI b), .int c] dX4_row_17 cv_X4_129 (ct_chosenGlyph (S := mI S 0 0) (F := F) (G := L.length) hds hF hF2 hR.1 hR.2.1 hb) (fun r h' hq' => ?_)
        obtain ⟨rfl, f, rfl⟩ := hq'
        show V _ _ 20 _ [.int (cgI S F L.length b c)] _ _ _ _ _
        rw [hc]
        refine v_goto (tgt := 24) 20 dX4_row_20 (by decide) ?_
        refine v_ist5 24 dX4_row_24 ?_
        refine v_iload 26 dX4_row_26 rfl ?_
        refine v_if_ge (tgt := 33) 28 dX4_row_28 (by decide) (fun c28 => ?_) (fun c28 => absurd (nI_pos' (by omega)) c28)
        refine v_iload_n 33 dX4_row_33 rfl rfl ?_
        refine v_if_lt (tgt := 53) 34 dX4_row_34 (by decide) (fun c34 => ?_) (fun c34 => ?_)
        · refine v_lconst (v := 0) 53 dX4_row_53 (by decide) ?_
          refine v_lret 54 dX4_row_54 rfl ?_
          exact ⟨_, _, rfl, rfl, Or.inr ⟨b, hb, rfl, ⟨f, rfl⟩, Or.inr ⟨g, L[g], W, D, hc, hqg, h1, h2, h3, h4, Or.inl ⟨Or.inl c34, rfl⟩⟩⟩⟩
        · refine v_iload_n 37 dX4_row_37 rfl rfl ?_
          refine v_aload_n 38 dX4_row_38 rfl rfl ?_
          refine v_getf 39 dX4_row_39 fl_X4_20 mPut_o rfl ?_
          refine v_bipush (v := 7) 42 dX4_row_42 (by decide) ?_
          refine v_iload 44 dX4_row_44 rfl ?_
          refine v_imul 46 dX4_row_46 ?_
          refine v_iconst (v := 5) 47 dX4_row_47 (by decide) ?_
          refine v_iadd 48 dX4_row_48 ?_
          refine m_ild 49 6 dX4_row_49 hds i5 ?_
          rw [show (mA (mI S 0 0) 19 f).2 6 ((7 : Int32) * nI g + 5).toNatClampNeg = nI D from eD]
          refine v_icmp_lt (tgt := 55) 50 dX4_row_50 (by decide) (fun c50 => ?_) (fun c50 => ?_)
          · refine v_lconst (v := 0) 55 dX4_row_55 (by decide) ?_
            refine v_lst6 56 dX4_row_56 ?_
            refine v_iconst (v := 0) 58 dX4_row_58 (by decide) ?_
            refine v_ist8 59 dX4_row_59 ?_
            obtain ⟨y, hy31, rfl⟩ := nI_of c34
            have hyD : y < D := (nI_ltI (by omega) (by omega)).mp c50
            refine V.eq (lp_row (S := mA (mI S 0 0) 19 f) (W := W) (D := D) (q := L[g]) (k := k) (y := y) hds (gRep_congr hR rfl rfl rfl rfl) hqg h1 h2 h3 h4 hyD ?_ 64 0 none (by omega) rfl) rfl rfl rfl rfl
            exact ⟨_, _, rfl, rfl, Or.inr ⟨b, hb, rfl, ⟨f, rfl⟩, Or.inr ⟨g, L[g], W, D, hc, hqg, h1, h2, h3, h4, Or.inr ⟨y, rfl, hyD, rfl⟩⟩⟩⟩
          · refine v_lconst (v := 0) 53 dX4_row_53 (by decide) ?_
            refine v_lret 54 dX4_row_54 rfl ?_
            exact ⟨_, _, rfl, rfl, Or.inr ⟨b, hb, rfl, ⟨f, rfl⟩, Or.inr ⟨g, L[g], W, D, hc, hqg, h1, h2, h3, h4, Or.inl ⟨Or.inr (Int32.not_lt.mp c50), rfl⟩⟩⟩⟩

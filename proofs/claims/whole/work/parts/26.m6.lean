def goodG (l t w d s : Int32) : Prop := ¬ l < -16384 ∧ ¬ 16383 < l ∧ ¬ t < -16384 ∧ ¬ 16383 < t ∧ ¬ w < 0 ∧ ¬ 128 < w ∧ ¬ d < 0 ∧ ¬ 128 < d ∧ ¬ s < 0 ∧ ¬ 32767 < s
def comG (f : Nat → Int32) (l t w d s : Int32) : Nat → Int32 := upd (upd (upd (upd (upd f 0 l) 1 t) 2 w) 3 d) 4 s
def glyphR (S : MS) (F : Nat) (l t w d s : Int32) (S' : MS) (r : Int32) : Prop :=
  (lastIx (S.2 2) (S.1 12) F < 0 ∧ r = 0 ∧ S' = mI S 0 1) ∨
  (¬ lastIx (S.2 2) (S.1 12) F < 0 ∧ ¬ goodG l t w d s ∧ r = 0 ∧ S' = mI S 0 2) ∨
  (¬ lastIx (S.2 2) (S.1 12) F < 0 ∧ goodG l t w d s ∧ r = d * ((w + 7) / 8) ∧ S' = mI (mI (mI (mA (mI S 0 0) 15 (comG (S.2 15) l t w d s)) 16 (d * ((w + 7) / 8))) 17 0) 14 1)
set_option maxHeartbeats 4000000 in
set_option maxRecDepth 100000 in
theorem ct_glyph {K : KT} {h : AH} {mo : Nat} {ad : Nat → Nat} {S : MS} {F : Nat} {l t w d s : Int32} (hds : mDis mo ad) (hF : S.1 1 = nI F) (hF2 : F ≤ 32) : Ct K mX4_glyph 0 0 [.ref mo, .int l, .int t, .int w, .int d, .int s] (mPut h mo ad S) (fun r h' => ∃ (b : Int32) (S' : MS), r = some (.int b) ∧ h' = mPut h mo ad S' ∧ glyphR S F l t w d s S' b) noX := by
  refine ct_of (by decide +kernel) rfl (Nat.le_of_ble_eq_true rfl) rfl ?_
  refine v_aload_n 0 dX4_glyph_0 rfl rfl ?_
  refine v_aload_n 1 dX4_glyph_1 rfl rfl ?_
  refine v_aload_n 2 dX4_glyph_2 rfl rfl ?_
  refine v_getf 3 dX4_glyph_3 fl_X4_55 mPut_o rfl ?_
  refine m_call 6 [.int (S.1 12)] dX4_glyph_6 cv_X4_86 (ct_fontOf (F := F) hds hF (by omega)) (fun r h' hq' => ?_)
  obtain ⟨rfl, rfl⟩ := hq'
  refine v_if_ge (tgt := 16) 9 dX4_glyph_9 (by decide) (fun c9 => ?_) (fun c9 => ?_)
  · refine v_iconst (v := 0) 16 dX4_glyph_16 (by decide) ?_
    refine m_put 17 dX4_glyph_17 fl_X4_45 ?_
    refine v_aload_n 20 dX4_glyph_20 rfl rfl ?_
    refine v_getf 21 dX4_glyph_21 fl_X4_45 mPut_o rfl ?_
    refine v_if_le (tgt := 29) 24 dX4_glyph_24 (by decide) (fun c24 => ?_) (fun c24 => absurd (by show ((0 : Int32) ≤ 0); decide) c24)
    refine v_iload_n 29 dX4_glyph_29 rfl rfl ?_
    refine v_sipush (v := -16384) 30 dX4_glyph_30 (by decide) ?_
    refine v_icmp_lt (tgt := 98) 33 dX4_glyph_33 (by decide) (fun c33 => ?_) (fun c33 => ?_)
    · refine v_iconst (v := 0) 98 dX4_glyph_98 (by decide) ?_
      refine v_ist6 99 dX4_glyph_99 ?_
      refine v_aload_n 101 dX4_glyph_101 rfl rfl ?_
      refine v_iload 102 dX4_glyph_102 rfl ?_
      refine v_if_eq (tgt := 111) 104 dX4_glyph_104 (by decide) (fun c104 => ?_) (fun c104 => absurd (by decide) c104)
      refine v_iconst (v := 2) 111 dX4_glyph_111 (by decide) ?_
      refine m_put 112 dX4_glyph_112 fl_X4_45 ?_
      refine v_aload_n 115 dX4_glyph_115 rfl rfl ?_
      refine v_getf 116 dX4_glyph_116 fl_X4_45 mPut_o rfl ?_
      refine v_if_le (tgt := 124) 119 dX4_glyph_119 (by decide) (fun c119 => absurd c119 (by show ¬ ((2 : Int32) ≤ 0); decide)) (fun c119 => ?_)
      refine v_iconst (v := 0) 122 dX4_glyph_122 (by decide) ?_
      refine v_iret 123 dX4_glyph_123 rfl rfl ?_
      exact ⟨_, _, rfl, rfl, Or.inr (Or.inl ⟨by simpa using c9, by unfold goodG; simp_all [-Int32.not_lt, -Int32.not_le], rfl, mI_mI S 0 0 2⟩)⟩
    · refine v_iload_n 36 dX4_glyph_36 rfl rfl ?_
      refine v_sipush (v := 16383) 37 dX4_glyph_37 (by decide) ?_
      refine v_icmp_gt (tgt := 98) 40 dX4_glyph_40 (by decide) (fun c40 => ?_) (fun c40 => ?_)
      · refine v_iconst (v := 0) 98 dX4_glyph_98 (by decide) ?_
        refine v_ist6 99 dX4_glyph_99 ?_
        refine v_aload_n 101 dX4_glyph_101 rfl rfl ?_
        refine v_iload 102 dX4_glyph_102 rfl ?_
        refine v_if_eq (tgt := 111) 104 dX4_glyph_104 (by decide) (fun c104 => ?_) (fun c104 => absurd (by decide) c104)
        refine v_iconst (v := 2) 111 dX4_glyph_111 (by decide) ?_
        refine m_put 112 dX4_glyph_112 fl_X4_45 ?_
        refine v_aload_n 115 dX4_glyph_115 rfl rfl ?_
        refine v_getf 116 dX4_glyph_116 fl_X4_45 mPut_o rfl ?_
        refine v_if_le (tgt := 124) 119 dX4_glyph_119 (by decide) (fun c119 => absurd c119 (by show ¬ ((2 : Int32) ≤ 0); decide)) (fun c119 => ?_)
        refine v_iconst (v := 0) 122 dX4_glyph_122 (by decide) ?_
        refine v_iret 123 dX4_glyph_123 rfl rfl ?_
        exact ⟨_, _, rfl, rfl, Or.inr (Or.inl ⟨by simpa using c9, by unfold goodG; simp_all [-Int32.not_lt, -Int32.not_le], rfl, mI_mI S 0 0 2⟩)⟩
      · refine v_iload_n 43 dX4_glyph_43 rfl rfl ?_
        refine v_sipush (v := -16384) 44 dX4_glyph_44 (by decide) ?_
        refine v_icmp_lt (tgt := 98) 47 dX4_glyph_47 (by decide) (fun c47 => ?_) (fun c47 => ?_)
        · refine v_iconst (v := 0) 98 dX4_glyph_98 (by decide) ?_
          refine v_ist6 99 dX4_glyph_99 ?_
          refine v_aload_n 101 dX4_glyph_101 rfl rfl ?_
          refine v_iload 102 dX4_glyph_102 rfl ?_
          refine v_if_eq (tgt := 111) 104 dX4_glyph_104 (by decide) (fun c104 => ?_) (fun c104 => absurd (by decide) c104)
          refine v_iconst (v := 2) 111 dX4_glyph_111 (by decide) ?_
          refine m_put 112 dX4_glyph_112 fl_X4_45 ?_
          refine v_aload_n 115 dX4_glyph_115 rfl rfl ?_
          refine v_getf 116 dX4_glyph_116 fl_X4_45 mPut_o rfl ?_
          refine v_if_le (tgt := 124) 119 dX4_glyph_119 (by decide) (fun c119 => absurd c119 (by show ¬ ((2 : Int32) ≤ 0); decide)) (fun c119 => ?_)
          refine v_iconst (v := 0) 122 dX4_glyph_122 (by decide) ?_
          refine v_iret 123 dX4_glyph_123 rfl rfl ?_
          exact ⟨_, _, rfl, rfl, Or.inr (Or.inl ⟨by simpa using c9, by unfold goodG; simp_all [-Int32.not_lt, -Int32.not_le], rfl, mI_mI S 0 0 2⟩)⟩
        · refine v_iload_n 50 dX4_glyph_50 rfl rfl ?_
          refine v_sipush (v := 16383) 51 dX4_glyph_51 (by decide) ?_
          refine v_icmp_gt (tgt := 98) 54 dX4_glyph_54 (by decide) (fun c54 => ?_) (fun c54 => ?_)
          · refine v_iconst (v := 0) 98 dX4_glyph_98 (by decide) ?_
            refine v_ist6 99 dX4_glyph_99 ?_
            refine v_aload_n 101 dX4_glyph_101 rfl rfl ?_
            refine v_iload 102 dX4_glyph_102 rfl ?_
            refine v_if_eq (tgt := 111) 104 dX4_glyph_104 (by decide) (fun c104 => ?_) (fun c104 => absurd (by decide) c104)
            refine v_iconst (v := 2) 111 dX4_glyph_111 (by decide) ?_
            refine m_put 112 dX4_glyph_112 fl_X4_45 ?_
            refine v_aload_n 115 dX4_glyph_115 rfl rfl ?_
            refine v_getf 116 dX4_glyph_116 fl_X4_45 mPut_o rfl ?_
            refine v_if_le (tgt := 124) 119 dX4_glyph_119 (by decide) (fun c119 => absurd c119 (by show ¬ ((2 : Int32) ≤ 0); decide)) (fun c119 => ?_)
            refine v_iconst (v := 0) 122 dX4_glyph_122 (by decide) ?_
            refine v_iret 123 dX4_glyph_123 rfl rfl ?_
            exact ⟨_, _, rfl, rfl, Or.inr (Or.inl ⟨by simpa using c9, by unfold goodG; simp_all [-Int32.not_lt, -Int32.not_le], rfl, mI_mI S 0 0 2⟩)⟩
          · refine v_iload_n 57 dX4_glyph_57 rfl rfl ?_
            refine v_if_lt (tgt := 98) 58 dX4_glyph_58 (by decide) (fun c58 => ?_) (fun c58 => ?_)
            · refine v_iconst (v := 0) 98 dX4_glyph_98 (by decide) ?_
              refine v_ist6 99 dX4_glyph_99 ?_
              refine v_aload_n 101 dX4_glyph_101 rfl rfl ?_
              refine v_iload 102 dX4_glyph_102 rfl ?_
              refine v_if_eq (tgt := 111) 104 dX4_glyph_104 (by decide) (fun c104 => ?_) (fun c104 => absurd (by decide) c104)
              refine v_iconst (v := 2) 111 dX4_glyph_111 (by decide) ?_
              refine m_put 112 dX4_glyph_112 fl_X4_45 ?_
              refine v_aload_n 115 dX4_glyph_115 rfl rfl ?_
              refine v_getf 116 dX4_glyph_116 fl_X4_45 mPut_o rfl ?_
              refine v_if_le (tgt := 124) 119 dX4_glyph_119 (by decide) (fun c119 => absurd c119 (by show ¬ ((2 : Int32) ≤ 0); decide)) (fun c119 => ?_)
              refine v_iconst (v := 0) 122 dX4_glyph_122 (by decide) ?_
              refine v_iret 123 dX4_glyph_123 rfl rfl ?_
              exact ⟨_, _, rfl, rfl, Or.inr (Or.inl ⟨by simpa using c9, by unfold goodG; simp_all [-Int32.not_lt, -Int32.not_le], rfl, mI_mI S 0 0 2⟩)⟩
            · refine v_iload_n 61 dX4_glyph_61 rfl rfl ?_
              refine v_sipush (v := 128) 62 dX4_glyph_62 (by decide) ?_
              refine v_icmp_gt (tgt := 98) 65 dX4_glyph_65 (by decide) (fun c65 => ?_) (fun c65 => ?_)
              · refine v_iconst (v := 0) 98 dX4_glyph_98 (by decide) ?_
                refine v_ist6 99 dX4_glyph_99 ?_
                refine v_aload_n 101 dX4_glyph_101 rfl rfl ?_
                refine v_iload 102 dX4_glyph_102 rfl ?_
                refine v_if_eq (tgt := 111) 104 dX4_glyph_104 (by decide) (fun c104 => ?_) (fun c104 => absurd (by decide) c104)
                refine v_iconst (v := 2) 111 dX4_glyph_111 (by decide) ?_
                refine m_put 112 dX4_glyph_112 fl_X4_45 ?_
                refine v_aload_n 115 dX4_glyph_115 rfl rfl ?_
                refine v_getf 116 dX4_glyph_116 fl_X4_45 mPut_o rfl ?_
                refine v_if_le (tgt := 124) 119 dX4_glyph_119 (by decide) (fun c119 => absurd c119 (by show ¬ ((2 : Int32) ≤ 0); decide)) (fun c119 => ?_)
                refine v_iconst (v := 0) 122 dX4_glyph_122 (by decide) ?_
                refine v_iret 123 dX4_glyph_123 rfl rfl ?_
                exact ⟨_, _, rfl, rfl, Or.inr (Or.inl ⟨by simpa using c9, by unfold goodG; simp_all [-Int32.not_lt, -Int32.not_le], rfl, mI_mI S 0 0 2⟩)⟩
              · refine v_iload 68 dX4_glyph_68 rfl ?_
                refine v_if_lt (tgt := 98) 70 dX4_glyph_70 (by decide) (fun c70 => ?_) (fun c70 => ?_)
                · refine v_iconst (v := 0) 98 dX4_glyph_98 (by decide) ?_
                  refine v_ist6 99 dX4_glyph_99 ?_
                  refine v_aload_n 101 dX4_glyph_101 rfl rfl ?_
                  refine v_iload 102 dX4_glyph_102 rfl ?_
                  refine v_if_eq (tgt := 111) 104 dX4_glyph_104 (by decide) (fun c104 => ?_) (fun c104 => absurd (by decide) c104)
                  refine v_iconst (v := 2) 111 dX4_glyph_111 (by decide) ?_
                  refine m_put 112 dX4_glyph_112 fl_X4_45 ?_
                  refine v_aload_n 115 dX4_glyph_115 rfl rfl ?_
                  refine v_getf 116 dX4_glyph_116 fl_X4_45 mPut_o rfl ?_
                  refine v_if_le (tgt := 124) 119 dX4_glyph_119 (by decide) (fun c119 => absurd c119 (by show ¬ ((2 : Int32) ≤ 0); decide)) (fun c119 => ?_)
                  refine v_iconst (v := 0) 122 dX4_glyph_122 (by decide) ?_
                  refine v_iret 123 dX4_glyph_123 rfl rfl ?_
                  exact ⟨_, _, rfl, rfl, Or.inr (Or.inl ⟨by simpa using c9, by unfold goodG; simp_all [-Int32.not_lt, -Int32.not_le], rfl, mI_mI S 0 0 2⟩)⟩
                · refine v_iload 73 dX4_glyph_73 rfl ?_
                  refine v_sipush (v := 128) 75 dX4_glyph_75 (by decide) ?_
                  refine v_icmp_gt (tgt := 98) 78 dX4_glyph_78 (by decide) (fun c78 => ?_) (fun c78 => ?_)
                  · refine v_iconst (v := 0) 98 dX4_glyph_98 (by decide) ?_
                    refine v_ist6 99 dX4_glyph_99 ?_
                    refine v_aload_n 101 dX4_glyph_101 rfl rfl ?_
                    refine v_iload 102 dX4_glyph_102 rfl ?_
                    refine v_if_eq (tgt := 111) 104 dX4_glyph_104 (by decide) (fun c104 => ?_) (fun c104 => absurd (by decide) c104)
                    refine v_iconst (v := 2) 111 dX4_glyph_111 (by decide) ?_
                    refine m_put 112 dX4_glyph_112 fl_X4_45 ?_
                    refine v_aload_n 115 dX4_glyph_115 rfl rfl ?_
                    refine v_getf 116 dX4_glyph_116 fl_X4_45 mPut_o rfl ?_
                    refine v_if_le (tgt := 124) 119 dX4_glyph_119 (by decide) (fun c119 => absurd c119 (by show ¬ ((2 : Int32) ≤ 0); decide)) (fun c119 => ?_)
                    refine v_iconst (v := 0) 122 dX4_glyph_122 (by decide) ?_
                    refine v_iret 123 dX4_glyph_123 rfl rfl ?_
                    exact ⟨_, _, rfl, rfl, Or.inr (Or.inl ⟨by simpa using c9, by unfold goodG; simp_all [-Int32.not_lt, -Int32.not_le], rfl, mI_mI S 0 0 2⟩)⟩
                  · refine v_iload 81 dX4_glyph_81 rfl ?_
                    refine v_if_lt (tgt := 98) 83 dX4_glyph_83 (by decide) (fun c83 => ?_) (fun c83 => ?_)
                    · refine v_iconst (v := 0) 98 dX4_glyph_98 (by decide) ?_
                      refine v_ist6 99 dX4_glyph_99 ?_
                      refine v_aload_n 101 dX4_glyph_101 rfl rfl ?_
                      refine v_iload 102 dX4_glyph_102 rfl ?_
                      refine v_if_eq (tgt := 111) 104 dX4_glyph_104 (by decide) (fun c104 => ?_) (fun c104 => absurd (by decide) c104)
                      refine v_iconst (v := 2) 111 dX4_glyph_111 (by decide) ?_
                      refine m_put 112 dX4_glyph_112 fl_X4_45 ?_
                      refine v_aload_n 115 dX4_glyph_115 rfl rfl ?_
                      refine v_getf 116 dX4_glyph_116 fl_X4_45 mPut_o rfl ?_
                      refine v_if_le (tgt := 124) 119 dX4_glyph_119 (by decide) (fun c119 => absurd c119 (by show ¬ ((2 : Int32) ≤ 0); decide)) (fun c119 => ?_)
                      refine v_iconst (v := 0) 122 dX4_glyph_122 (by decide) ?_
                      refine v_iret 123 dX4_glyph_123 rfl rfl ?_
                      exact ⟨_, _, rfl, rfl, Or.inr (Or.inl ⟨by simpa using c9, by unfold goodG; simp_all [-Int32.not_lt, -Int32.not_le], rfl, mI_mI S 0 0 2⟩)⟩
                    · refine v_iload 86 dX4_glyph_86 rfl ?_
                      refine v_sipush (v := 32767) 88 dX4_glyph_88 (by decide) ?_
                      refine v_icmp_gt (tgt := 98) 91 dX4_glyph_91 (by decide) (fun c91 => ?_) (fun c91 => ?_)
                      · refine v_iconst (v := 0) 98 dX4_glyph_98 (by decide) ?_
                        refine v_ist6 99 dX4_glyph_99 ?_
                        refine v_aload_n 101 dX4_glyph_101 rfl rfl ?_
                        refine v_iload 102 dX4_glyph_102 rfl ?_
                        refine v_if_eq (tgt := 111) 104 dX4_glyph_104 (by decide) (fun c104 => ?_) (fun c104 => absurd (by decide) c104)
                        refine v_iconst (v := 2) 111 dX4_glyph_111 (by decide) ?_
                        refine m_put 112 dX4_glyph_112 fl_X4_45 ?_
                        refine v_aload_n 115 dX4_glyph_115 rfl rfl ?_
                        refine v_getf 116 dX4_glyph_116 fl_X4_45 mPut_o rfl ?_
                        refine v_if_le (tgt := 124) 119 dX4_glyph_119 (by decide) (fun c119 => absurd c119 (by show ¬ ((2 : Int32) ≤ 0); decide)) (fun c119 => ?_)
                        refine v_iconst (v := 0) 122 dX4_glyph_122 (by decide) ?_
                        refine v_iret 123 dX4_glyph_123 rfl rfl ?_
                        exact ⟨_, _, rfl, rfl, Or.inr (Or.inl ⟨by simpa using c9, by unfold goodG; simp_all [-Int32.not_lt, -Int32.not_le], rfl, mI_mI S 0 0 2⟩)⟩
                      · refine v_iconst (v := 1) 94 dX4_glyph_94 (by decide) ?_
                        refine v_goto (tgt := 99) 95 dX4_glyph_95 (by decide) ?_
                        refine v_ist6 99 dX4_glyph_99 ?_
                        refine v_aload_n 101 dX4_glyph_101 rfl rfl ?_
                        refine v_iload 102 dX4_glyph_102 rfl ?_
                        refine v_if_eq (tgt := 111) 104 dX4_glyph_104 (by decide) (fun c104 => absurd c104 (by decide)) (fun c104 => ?_)
                        refine v_iconst (v := 0) 107 dX4_glyph_107 (by decide) ?_
                        refine v_goto (tgt := 112) 108 dX4_glyph_108 (by decide) ?_
                        refine m_put 112 dX4_glyph_112 fl_X4_45 ?_
                        refine v_aload_n 115 dX4_glyph_115 rfl rfl ?_
                        refine v_getf 116 dX4_glyph_116 fl_X4_45 mPut_o rfl ?_
                        refine v_if_le (tgt := 124) 119 dX4_glyph_119 (by decide) (fun c119 => ?_) (fun c119 => absurd (by show ((0 : Int32) ≤ 0); decide) c119)
                        refine v_aload_n 124 dX4_glyph_124 rfl rfl ?_
                        refine v_getf 125 dX4_glyph_125 fl_X4_36 mPut_o rfl ?_
                        refine v_iconst (v := 0) 128 dX4_glyph_128 (by decide) ?_
                        refine v_iload_n 129 dX4_glyph_129 rfl rfl ?_
                        refine m_ist 130 15 dX4_glyph_130 hds (by unfold vp_in; decide) ?_
                        refine v_aload_n 131 dX4_glyph_131 rfl rfl ?_
                        refine v_getf 132 dX4_glyph_132 fl_X4_36 mPut_o rfl ?_
                        refine v_iconst (v := 1) 135 dX4_glyph_135 (by decide) ?_
                        refine v_iload_n 136 dX4_glyph_136 rfl rfl ?_
                        refine m_ist 137 15 dX4_glyph_137 hds (by unfold vp_in; decide) ?_
                        refine v_aload_n 138 dX4_glyph_138 rfl rfl ?_
                        refine v_getf 139 dX4_glyph_139 fl_X4_36 mPut_o rfl ?_
                        refine v_iconst (v := 2) 142 dX4_glyph_142 (by decide) ?_
                        refine v_iload_n 143 dX4_glyph_143 rfl rfl ?_
                        refine m_ist 144 15 dX4_glyph_144 hds (by unfold vp_in; decide) ?_
                        refine v_aload_n 145 dX4_glyph_145 rfl rfl ?_
                        refine v_getf 146 dX4_glyph_146 fl_X4_36 mPut_o rfl ?_
                        refine v_iconst (v := 3) 149 dX4_glyph_149 (by decide) ?_
                        refine v_iload 150 dX4_glyph_150 rfl ?_
                        refine m_ist 152 15 dX4_glyph_152 hds (by unfold vp_in; decide) ?_
                        refine v_aload_n 153 dX4_glyph_153 rfl rfl ?_
                        refine v_getf 154 dX4_glyph_154 fl_X4_36 mPut_o rfl ?_
                        refine v_iconst (v := 4) 157 dX4_glyph_157 (by decide) ?_
                        refine v_iload 158 dX4_glyph_158 rfl ?_
                        refine m_ist 160 15 dX4_glyph_160 hds (by unfold vp_in; decide) ?_
                        refine v_aload_n 161 dX4_glyph_161 rfl rfl ?_
                        refine v_iload 162 dX4_glyph_162 rfl ?_
                        refine v_iload_n 164 dX4_glyph_164 rfl rfl ?_
                        refine v_bipush (v := 7) 165 dX4_glyph_165 (by decide) ?_
                        refine v_iadd 167 dX4_glyph_167 ?_
                        refine v_bipush (v := 8) 168 dX4_glyph_168 (by decide) ?_
                        refine v_idiv 170 dX4_glyph_170 (by decide) ?_
                        refine v_imul 171 dX4_glyph_171 ?_
                        refine m_put 172 dX4_glyph_172 fl_X4_92 ?_
                        refine v_aload_n 175 dX4_glyph_175 rfl rfl ?_
                        refine v_iconst (v := 0) 176 dX4_glyph_176 (by decide) ?_
                        refine m_put 177 dX4_glyph_177 fl_X4_95 ?_
                        refine v_aload_n 180 dX4_glyph_180 rfl rfl ?_
                        refine v_iconst (v := 1) 181 dX4_glyph_181 (by decide) ?_
                        refine m_put 182 dX4_glyph_182 fl_X4_58 ?_
                        refine v_aload_n 185 dX4_glyph_185 rfl rfl ?_
                        refine v_getf 186 dX4_glyph_186 fl_X4_92 mPut_o rfl ?_
                        refine v_iret 189 dX4_glyph_189 rfl rfl ?_
                        exact ⟨_, _, rfl, rfl, Or.inr (Or.inr ⟨by simpa using c9, by unfold goodG; simp_all [-Int32.not_lt, -Int32.not_le], rfl, by simp only [mI_mI, mA_mA, mA_s, mI_2]; rfl⟩)⟩
  · refine v_iconst (v := 1) 12 dX4_glyph_12 (by decide) ?_
    refine v_goto (tgt := 17) 13 dX4_glyph_13 (by decide) ?_
    refine m_put 17 dX4_glyph_17 fl_X4_45 ?_
    refine v_aload_n 20 dX4_glyph_20 rfl rfl ?_
    refine v_getf 21 dX4_glyph_21 fl_X4_45 mPut_o rfl ?_
    refine v_if_le (tgt := 29) 24 dX4_glyph_24 (by decide) (fun c24 => absurd c24 (by show ¬ ((1 : Int32) ≤ 0); decide)) (fun c24 => ?_)
    refine v_iconst (v := 0) 27 dX4_glyph_27 (by decide) ?_
    refine v_iret 28 dX4_glyph_28 rfl rfl ?_
    exact ⟨_, _, rfl, rfl, Or.inl ⟨by simpa using c9, rfl, rfl⟩⟩

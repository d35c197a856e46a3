theorem lastIx_spec (f : Nat → Int32) (x : Int32) : ∀ n : Nat, (lastIx f x n = -1 ∧ ∀ k, k < n → f k ≠ x) ∨ ∃ k, k < n ∧ lastIx f x n = nI k ∧ f k = x ∧ ∀ j, k < j → j < n → f j ≠ x
  | 0 => Or.inl ⟨rfl, fun k h => absurd h (Nat.not_lt_zero k)⟩
  | n + 1 => by
    by_cases hn : f n = x
    · exact Or.inr ⟨n, Nat.lt_succ_self n, by simp [lastIx, hn], hn, fun j h1 h2 => by omega⟩
    · have e : lastIx f x (n + 1) = lastIx f x n := by simp [lastIx, hn]
      rcases lastIx_spec f x n with ⟨h1, h2⟩ | ⟨k, h1, h2, h3, h4⟩
      · refine Or.inl ⟨e.trans h1, fun k hk => ?_⟩
        by_cases hkn : k = n
        · rw [hkn]; exact hn
        · exact h2 k (by omega)
      · refine Or.inr ⟨k, by omega, e.trans h2, h3, fun j hj1 hj2 => ?_⟩
        by_cases hjn : j = n
        · rw [hjn]; exact hn
        · exact h4 j hj1 (by omega)
theorem lastIx_in {f : Nat → Int32} {x : Int32} {n : Nat} (h : ¬ lastIx f x n < 0) : ∃ k, k < n ∧ lastIx f x n = nI k ∧ f k = x := by
  rcases lastIx_spec f x n with ⟨h1, -⟩ | ⟨k, h1, h2, h3, -⟩
  · exact absurd (by rw [h1]; decide) h
  · exact ⟨k, h1, h2, h3⟩
theorem fit_ix {w v : Int32} (h : fitP w v) : ∃ j : Nat, j < 7 ∧ w = nI j := by
  rcases h with h | h | h | h | h | h | h
  · exact ⟨0, by decide, h.1⟩
  · exact ⟨1, by decide, h.1⟩
  · exact ⟨2, by decide, h.1⟩
  · exact ⟨3, by decide, h.1⟩
  · exact ⟨4, by decide, h.1⟩
  · exact ⟨5, by decide, h.1⟩
  · exact ⟨6, by decide, h.1⟩
theorem below_F {i : Int32} {F : Nat} {c : Int32} (hF : c = nI F) (hF2 : F < 2 ^ 31) (h0 : ¬ i < 0) (h1 : ¬ c ≤ i) : ∃ j, j < F ∧ i = nI j := by
  obtain ⟨j, hj, rfl⟩ := nI_of h0
  refine ⟨j, ?_, rfl⟩
  rw [hF] at h1
  exact Nat.not_le.mp fun h => h1 (nI_le h hj)
def fontM (S : MS) (G : Nat) (i w : Int32) : MS × Int32 := if i < 0 ∨ S.1 1 ≤ i ∨ w < 0 ∨ ¬ w ≤ 9 then (mI S 0 1, 0) else (mI S 0 0, if ¬ 7 ≤ w then S.2 3 (7 * i + w).toNatClampNeg else if w = 7 then S.2 2 i.toNatClampNeg else if w = 8 then (if S.2 4 i.toNatClampNeg = 0 then 0 else 1) else cntG (S.2 6) (S.2 2 i.toNatClampNeg) G)
set_option maxHeartbeats 4000000 in
set_option maxRecDepth 100000 in
theorem ct_font {K : KT} {h : AH} {mo : Nat} {ad : Nat → Nat} {S : MS} {F G : Nat} {i w : Int32} (hds : mDis mo ad) (hF : S.1 1 = nI F) (hF2 : F ≤ 32) (hG : S.1 5 = nI G) (hG2 : G ≤ 256) : Ct K mX4_font 0 0 [.ref mo, .int i, .int w] (mPut h mo ad S) (fun r h' => r = some (.int (fontM S G i w).2) ∧ h' = mPut h mo ad (fontM S G i w).1) noX := by
  refine ct_of (by decide +kernel) rfl (Nat.le_of_ble_eq_true rfl) rfl ?_
  refine v_aload_n 0 dX4_font_0 rfl rfl ?_
  refine v_iload_n 1 dX4_font_1 rfl rfl ?_
  refine v_if_lt (tgt := 23) 2 dX4_font_2 (by decide) (fun c2 => ?_) (fun c2 => ?_)
  · refine v_iconst (v := 1) 23 dX4_font_23 (by decide) ?_
    refine v_goto (tgt := 28) 24 dX4_font_24 (by decide) ?_
    refine m_put 28 dX4_font_28 fl_X4_45 ?_
    refine v_aload_n 31 dX4_font_31 rfl rfl ?_
    refine v_getf 32 dX4_font_32 fl_X4_45 mPut_o rfl ?_
    refine v_if_le (tgt := 40) 35 dX4_font_35 (by decide) (fun c35 => absurd c35 (by show ¬ ((1 : Int32) ≤ 0); decide)) (fun c35 => ?_)
    refine v_iconst (v := 0) 38 dX4_font_38 (by decide) ?_
    refine v_iret 39 dX4_font_39 rfl rfl ?_
    exact ⟨by simp_all [fontM, mI_n, mI_s, mI_2, mA_1, mA_n, mA_s, -Int32.not_lt, -Int32.not_le], by simp_all [fontM, mI_n, mI_s, mI_2, mA_1, mA_n, mA_s, -Int32.not_lt, -Int32.not_le]⟩
  · refine v_iload_n 5 dX4_font_5 rfl rfl ?_
    refine v_aload_n 6 dX4_font_6 rfl rfl ?_
    refine v_getf 7 dX4_font_7 fl_X4_66 mPut_o rfl ?_
    refine v_icmp_ge (tgt := 23) 10 dX4_font_10 (by decide) (fun c10 => ?_) (fun c10 => ?_)
    · refine v_iconst (v := 1) 23 dX4_font_23 (by decide) ?_
      refine v_goto (tgt := 28) 24 dX4_font_24 (by decide) ?_
      refine m_put 28 dX4_font_28 fl_X4_45 ?_
      refine v_aload_n 31 dX4_font_31 rfl rfl ?_
      refine v_getf 32 dX4_font_32 fl_X4_45 mPut_o rfl ?_
      refine v_if_le (tgt := 40) 35 dX4_font_35 (by decide) (fun c35 => absurd c35 (by show ¬ ((1 : Int32) ≤ 0); decide)) (fun c35 => ?_)
      refine v_iconst (v := 0) 38 dX4_font_38 (by decide) ?_
      refine v_iret 39 dX4_font_39 rfl rfl ?_
      exact ⟨by simp_all [fontM, mI_n, mI_s, mI_2, mA_1, mA_n, mA_s, -Int32.not_lt, -Int32.not_le], by simp_all [fontM, mI_n, mI_s, mI_2, mA_1, mA_n, mA_s, -Int32.not_lt, -Int32.not_le]⟩
    · refine v_iload_n 13 dX4_font_13 rfl rfl ?_
      refine v_if_lt (tgt := 23) 14 dX4_font_14 (by decide) (fun c14 => ?_) (fun c14 => ?_)
      · refine v_iconst (v := 1) 23 dX4_font_23 (by decide) ?_
        refine v_goto (tgt := 28) 24 dX4_font_24 (by decide) ?_
        refine m_put 28 dX4_font_28 fl_X4_45 ?_
        refine v_aload_n 31 dX4_font_31 rfl rfl ?_
        refine v_getf 32 dX4_font_32 fl_X4_45 mPut_o rfl ?_
        refine v_if_le (tgt := 40) 35 dX4_font_35 (by decide) (fun c35 => absurd c35 (by show ¬ ((1 : Int32) ≤ 0); decide)) (fun c35 => ?_)
        refine v_iconst (v := 0) 38 dX4_font_38 (by decide) ?_
        refine v_iret 39 dX4_font_39 rfl rfl ?_
        exact ⟨by simp_all [fontM, mI_n, mI_s, mI_2, mA_1, mA_n, mA_s, -Int32.not_lt, -Int32.not_le], by simp_all [fontM, mI_n, mI_s, mI_2, mA_1, mA_n, mA_s, -Int32.not_lt, -Int32.not_le]⟩
      · refine v_iload_n 17 dX4_font_17 rfl rfl ?_
        refine v_bipush (v := 9) 18 dX4_font_18 (by decide) ?_
        refine v_icmp_le (tgt := 27) 20 dX4_font_20 (by decide) (fun c20 => ?_) (fun c20 => ?_)
        · refine v_iconst (v := 0) 27 dX4_font_27 (by decide) ?_
          refine m_put 28 dX4_font_28 fl_X4_45 ?_
          refine v_aload_n 31 dX4_font_31 rfl rfl ?_
          refine v_getf 32 dX4_font_32 fl_X4_45 mPut_o rfl ?_
          refine v_if_le (tgt := 40) 35 dX4_font_35 (by decide) (fun c35 => ?_) (fun c35 => absurd (by show ((0 : Int32) ≤ 0); decide) c35)
          refine v_iload_n 40 dX4_font_40 rfl rfl ?_
          refine v_bipush (v := 7) 41 dX4_font_41 (by decide) ?_
          refine v_icmp_ge (tgt := 60) 43 dX4_font_43 (by decide) (fun c43 => ?_) (fun c43 => ?_)
          · refine v_iload_n 60 dX4_font_60 rfl rfl ?_
            refine v_bipush (v := 7) 61 dX4_font_61 (by decide) ?_
            refine v_icmp_ne (tgt := 75) 63 dX4_font_63 (by decide) (fun c63 => ?_) (fun c63 => ?_)
            · refine v_iload_n 75 dX4_font_75 rfl rfl ?_
              refine v_bipush (v := 8) 76 dX4_font_76 (by decide) ?_
              refine v_icmp_ne (tgt := 98) 78 dX4_font_78 (by decide) (fun c78 => ?_) (fun c78 => ?_)
              · refine v_aload_n 98 dX4_font_98 rfl rfl ?_
                refine v_aload_n 99 dX4_font_99 rfl rfl ?_
                refine v_getf 100 dX4_font_100 fl_X4_7 mPut_o rfl ?_
                refine v_iload_n 103 dX4_font_103 rfl rfl ?_
                refine m_ild 104 2 dX4_font_104 hds (by obtain ⟨j, hj, rfl⟩ := below_F hF (by omega) c2 c10; exact vp_in_nI (N := 33) (by omega) (by decide)) ?_
                refine m_call 105 [.int (S.2 2 i.toNatClampNeg)] dX4_font_105 cv_X4_107 (ct_glyphsOf (G := G) hds (by rw [mI_n (by decide)]; exact hG) hG2) (fun r h' hq' => ?_)
                obtain ⟨rfl, rfl⟩ := hq'
                refine v_iret 108 dX4_font_108 rfl rfl ?_
                exact ⟨by simp_all [fontM, mI_n, mI_s, mI_2, mA_1, mA_n, mA_s, -Int32.not_lt, -Int32.not_le], by simp_all [fontM, mI_n, mI_s, mI_2, mA_1, mA_n, mA_s, -Int32.not_lt, -Int32.not_le]⟩
              · refine v_aload_n 81 dX4_font_81 rfl rfl ?_
                refine v_getf 82 dX4_font_82 fl_X4_16 mPut_o rfl ?_
                refine v_iload_n 85 dX4_font_85 rfl rfl ?_
                refine m_zld 86 4 dX4_font_86 hds (by obtain ⟨j, hj, rfl⟩ := below_F hF (by omega) c2 c10; exact vp_in_nI (N := 33) (by omega) (by decide)) ?_
                refine v_if_eq (tgt := 94) 87 dX4_font_87 (by decide) (fun c87 => ?_) (fun c87 => ?_)
                · refine v_iconst (v := 0) 94 dX4_font_94 (by decide) ?_
                  refine v_goto (tgt := 108) 95 dX4_font_95 (by decide) ?_
                  refine v_iret 108 dX4_font_108 rfl rfl ?_
                  exact ⟨by simp_all [fontM, mI_n, mI_s, mI_2, mA_1, mA_n, mA_s, -Int32.not_lt, -Int32.not_le], by simp_all [fontM, mI_n, mI_s, mI_2, mA_1, mA_n, mA_s, -Int32.not_lt, -Int32.not_le]⟩
                · refine v_iconst (v := 1) 90 dX4_font_90 (by decide) ?_
                  refine v_goto (tgt := 108) 91 dX4_font_91 (by decide) ?_
                  refine v_iret 108 dX4_font_108 rfl rfl ?_
                  exact ⟨by simp_all [fontM, mI_n, mI_s, mI_2, mA_1, mA_n, mA_s, -Int32.not_lt, -Int32.not_le], by simp_all [fontM, mI_n, mI_s, mI_2, mA_1, mA_n, mA_s, -Int32.not_lt, -Int32.not_le]⟩
            · refine v_aload_n 66 dX4_font_66 rfl rfl ?_
              refine v_getf 67 dX4_font_67 fl_X4_7 mPut_o rfl ?_
              refine v_iload_n 70 dX4_font_70 rfl rfl ?_
              refine m_ild 71 2 dX4_font_71 hds (by obtain ⟨j, hj, rfl⟩ := below_F hF (by omega) c2 c10; exact vp_in_nI (N := 33) (by omega) (by decide)) ?_
              refine v_goto (tgt := 108) 72 dX4_font_72 (by decide) ?_
              refine v_iret 108 dX4_font_108 rfl rfl ?_
              exact ⟨by simp_all [fontM, mI_n, mI_s, mI_2, mA_1, mA_n, mA_s, -Int32.not_lt, -Int32.not_le], by simp_all [fontM, mI_n, mI_s, mI_2, mA_1, mA_n, mA_s, -Int32.not_lt, -Int32.not_le]⟩
          · refine v_aload_n 46 dX4_font_46 rfl rfl ?_
            refine v_getf 47 dX4_font_47 fl_X4_13 mPut_o rfl ?_
            refine v_bipush (v := 7) 50 dX4_font_50 (by decide) ?_
            refine v_iload_n 52 dX4_font_52 rfl rfl ?_
            refine v_imul 53 dX4_font_53 ?_
            refine v_iload_n 54 dX4_font_54 rfl rfl ?_
            refine v_iadd 55 dX4_font_55 ?_
            refine m_ild 56 3 dX4_font_56 hds (by obtain ⟨j, hj, rfl⟩ := below_F hF (by omega) c2 c10; obtain ⟨l, hl, rfl⟩ := nI_of c14; have hl7 : l < 7 := Nat.not_le.mp fun z => c43 (nI_le (a := 7) z hl); rw [m7, nI_add]; exact vp_in_nI (N := 231) (by omega) (by decide)) ?_
            refine v_goto (tgt := 108) 57 dX4_font_57 (by decide) ?_
            refine v_iret 108 dX4_font_108 rfl rfl ?_
            exact ⟨by simp_all [fontM, mI_n, mI_s, mI_2, mA_1, mA_n, mA_s, -Int32.not_lt, -Int32.not_le], by simp_all [fontM, mI_n, mI_s, mI_2, mA_1, mA_n, mA_s, -Int32.not_lt, -Int32.not_le]⟩
        · refine v_iconst (v := 1) 23 dX4_font_23 (by decide) ?_
          refine v_goto (tgt := 28) 24 dX4_font_24 (by decide) ?_
          refine m_put 28 dX4_font_28 fl_X4_45 ?_
          refine v_aload_n 31 dX4_font_31 rfl rfl ?_
          refine v_getf 32 dX4_font_32 fl_X4_45 mPut_o rfl ?_
          refine v_if_le (tgt := 40) 35 dX4_font_35 (by decide) (fun c35 => absurd c35 (by show ¬ ((1 : Int32) ≤ 0); decide)) (fun c35 => ?_)
          refine v_iconst (v := 0) 38 dX4_font_38 (by decide) ?_
          refine v_iret 39 dX4_font_39 rfl rfl ?_
          exact ⟨by simp_all [fontM, mI_n, mI_s, mI_2, mA_1, mA_n, mA_s, -Int32.not_lt, -Int32.not_le], by simp_all [fontM, mI_n, mI_s, mI_2, mA_1, mA_n, mA_s, -Int32.not_lt, -Int32.not_le]⟩
theorem fits_1 {P : Prop} {b : Int32} (h : (P ∧ b = 1) ∨ (¬ P ∧ b = 0)) (z : ¬ b = 0) : P := by
  rcases h with ⟨y, -⟩ | ⟨-, y⟩
  · exact y
  · exact absurd y z
def attrR (S : MS) (wish which w v : Int32) (S' : MS) (r : Int32) : Prop :=
  ((¬ fitP w v ∨ (¬ wish = 0 ∧ ¬ which = 0 ∧ ¬ which = 1)) ∧ r = 0 ∧ S' = mI S 0 0) ∨
  (fitP w v ∧ wish = 0 ∧ r = 1 ∧ S' = mA (mI S 0 0) 9 (upd (S.2 9) w.toNatClampNeg v)) ∨
  (fitP w v ∧ ¬ wish = 0 ∧ (which = 0 ∨ which = 1) ∧ r = 1 ∧ S' = mA (mA (mI S 0 0) 10 (upd (S.2 10) (7 * which + w).toNatClampNeg v)) 11 (upd (S.2 11) which.toNatClampNeg (-1)))
set_option maxHeartbeats 4000000 in
set_option maxRecDepth 100000 in
theorem ct_attribute {K : KT} {h : AH} {mo : Nat} {ad : Nat → Nat} {S : MS} {wish which w v : Int32} (hds : mDis mo ad) : Ct K mX4_attribute 0 0 [.ref mo, .int wish, .int which, .int w, .int v] (mPut h mo ad S) (fun r h' => ∃ (b : Int32) (S' : MS), r = some (.int b) ∧ h' = mPut h mo ad S' ∧ attrR S wish which w v S' b) noX := by
  refine ct_of (by decide +kernel) rfl (Nat.le_of_ble_eq_true rfl) rfl ?_
  refine v_aload_n 0 dX4_attribute_0 rfl rfl ?_
  refine v_iconst (v := 0) 1 dX4_attribute_1 (by decide) ?_
  refine m_put 2 dX4_attribute_2 fl_X4_45 ?_
  refine v_iload_n 5 dX4_attribute_5 rfl rfl ?_
  refine v_iload 6 dX4_attribute_6 rfl ?_
  refine v_callS 8 0 0 [.int w, .int v] dX4_attribute_8 cs_X4_62 ct_fits (fun r h' hq' => ?_)
  obtain ⟨fb, rfl, rfl, hfb⟩ := hq'
  have hfb1 : ¬ fb = 0 → fitP w v := fits_1 hfb
  refine v_if_eq (tgt := 27) 11 dX4_attribute_11 (by decide) (fun c11 => ?_) (fun c11 => ?_)
  · refine v_iconst (v := 0) 27 dX4_attribute_27 (by decide) ?_
    refine v_iret 28 dX4_attribute_28 rfl rfl ?_
    exact ⟨_, _, rfl, rfl, by simp_all [attrR, mA_n, mI_2]⟩
  · refine v_iload_n 14 dX4_attribute_14 rfl rfl ?_
    refine v_if_eq (tgt := 29) 15 dX4_attribute_15 (by decide) (fun c15 => ?_) (fun c15 => ?_)
    · refine v_iload_n 29 dX4_attribute_29 rfl rfl ?_
      refine v_if_eq (tgt := 56) 30 dX4_attribute_30 (by decide) (fun c30 => ?_) (fun c30 => ?_)
      · refine v_aload_n 56 dX4_attribute_56 rfl rfl ?_
        refine v_getf 57 dX4_attribute_57 fl_X4_27 mPut_o rfl ?_
        refine v_iload_n 60 dX4_attribute_60 rfl rfl ?_
        refine v_iload 61 dX4_attribute_61 rfl ?_
        refine m_ist 63 9 dX4_attribute_63 hds (by obtain ⟨l, hl, rfl⟩ := fit_ix (hfb1 c11); exact vp_in_nI (N := 7) hl (by decide)) ?_
        refine v_iconst (v := 1) 64 dX4_attribute_64 (by decide) ?_
        refine v_iret 65 dX4_attribute_65 rfl rfl ?_
        exact ⟨_, _, rfl, rfl, by simp_all [attrR, mA_n, mI_2]⟩
      · refine v_aload_n 33 dX4_attribute_33 rfl rfl ?_
        refine v_getf 34 dX4_attribute_34 fl_X4_30 mPut_o rfl ?_
        refine v_bipush (v := 7) 37 dX4_attribute_37 (by decide) ?_
        refine v_iload_n 39 dX4_attribute_39 rfl rfl ?_
        refine v_imul 40 dX4_attribute_40 ?_
        refine v_iload_n 41 dX4_attribute_41 rfl rfl ?_
        refine v_iadd 42 dX4_attribute_42 ?_
        refine v_iload 43 dX4_attribute_43 rfl ?_
        refine m_ist 45 10 dX4_attribute_45 hds (by obtain ⟨l, hl, rfl⟩ := fit_ix (hfb1 c11); rcases (show which = 0 ∨ which = 1 from by first | exact Or.inl (by assumption) | exact Or.inr (by assumption) | contradiction) with rfl | rfl <;> (first | (rw [show (7 : Int32) * 0 = nI 0 by decide, nI_add]; exact vp_in_nI (N := 14) (by omega) (by decide)) | (rw [show (7 : Int32) * 1 = nI 7 by decide, nI_add]; exact vp_in_nI (N := 14) (by omega) (by decide)))) ?_
        refine v_aload_n 46 dX4_attribute_46 rfl rfl ?_
        refine v_getf 47 dX4_attribute_47 fl_X4_33 mPut_o rfl ?_
        refine v_iload_n 50 dX4_attribute_50 rfl rfl ?_
        refine v_iconst (v := -1) 51 dX4_attribute_51 (by decide) ?_
        refine m_ist 52 11 dX4_attribute_52 hds (by rcases (show which = 0 ∨ which = 1 from by first | exact Or.inl (by assumption) | exact Or.inr (by assumption) | contradiction) with rfl | rfl <;> (unfold vp_in; decide)) ?_
        refine v_goto (tgt := 64) 53 dX4_attribute_53 (by decide) ?_
        refine v_iconst (v := 1) 64 dX4_attribute_64 (by decide) ?_
        refine v_iret 65 dX4_attribute_65 rfl rfl ?_
        exact ⟨_, _, rfl, rfl, by simp_all [attrR, mA_n, mI_2]⟩
    · refine v_iload_n 18 dX4_attribute_18 rfl rfl ?_
      refine v_if_eq (tgt := 29) 19 dX4_attribute_19 (by decide) (fun c19 => ?_) (fun c19 => ?_)
      · refine v_iload_n 29 dX4_attribute_29 rfl rfl ?_
        refine v_if_eq (tgt := 56) 30 dX4_attribute_30 (by decide) (fun c30 => ?_) (fun c30 => ?_)
        · refine v_aload_n 56 dX4_attribute_56 rfl rfl ?_
          refine v_getf 57 dX4_attribute_57 fl_X4_27 mPut_o rfl ?_
          refine v_iload_n 60 dX4_attribute_60 rfl rfl ?_
          refine v_iload 61 dX4_attribute_61 rfl ?_
          refine m_ist 63 9 dX4_attribute_63 hds (by obtain ⟨l, hl, rfl⟩ := fit_ix (hfb1 c11); exact vp_in_nI (N := 7) hl (by decide)) ?_
          refine v_iconst (v := 1) 64 dX4_attribute_64 (by decide) ?_
          refine v_iret 65 dX4_attribute_65 rfl rfl ?_
          exact ⟨_, _, rfl, rfl, by simp_all [attrR, mA_n, mI_2]⟩
        · refine v_aload_n 33 dX4_attribute_33 rfl rfl ?_
          refine v_getf 34 dX4_attribute_34 fl_X4_30 mPut_o rfl ?_
          refine v_bipush (v := 7) 37 dX4_attribute_37 (by decide) ?_
          refine v_iload_n 39 dX4_attribute_39 rfl rfl ?_
          refine v_imul 40 dX4_attribute_40 ?_
          refine v_iload_n 41 dX4_attribute_41 rfl rfl ?_
          refine v_iadd 42 dX4_attribute_42 ?_
          refine v_iload 43 dX4_attribute_43 rfl ?_
          refine m_ist 45 10 dX4_attribute_45 hds (by obtain ⟨l, hl, rfl⟩ := fit_ix (hfb1 c11); rcases (show which = 0 ∨ which = 1 from by first | exact Or.inl (by assumption) | exact Or.inr (by assumption) | contradiction) with rfl | rfl <;> (first | (rw [show (7 : Int32) * 0 = nI 0 by decide, nI_add]; exact vp_in_nI (N := 14) (by omega) (by decide)) | (rw [show (7 : Int32) * 1 = nI 7 by decide, nI_add]; exact vp_in_nI (N := 14) (by omega) (by decide)))) ?_
          refine v_aload_n 46 dX4_attribute_46 rfl rfl ?_
          refine v_getf 47 dX4_attribute_47 fl_X4_33 mPut_o rfl ?_
          refine v_iload_n 50 dX4_attribute_50 rfl rfl ?_
          refine v_iconst (v := -1) 51 dX4_attribute_51 (by decide) ?_
          refine m_ist 52 11 dX4_attribute_52 hds (by rcases (show which = 0 ∨ which = 1 from by first | exact Or.inl (by assumption) | exact Or.inr (by assumption) | contradiction) with rfl | rfl <;> (unfold vp_in; decide)) ?_
          refine v_goto (tgt := 64) 53 dX4_attribute_53 (by decide) ?_
          refine v_iconst (v := 1) 64 dX4_attribute_64 (by decide) ?_
          refine v_iret 65 dX4_attribute_65 rfl rfl ?_
          exact ⟨_, _, rfl, rfl, by simp_all [attrR, mA_n, mI_2]⟩
      · refine v_iload_n 22 dX4_attribute_22 rfl rfl ?_
        refine v_iconst (v := 1) 23 dX4_attribute_23 (by decide) ?_
        refine v_icmp_eq (tgt := 29) 24 dX4_attribute_24 (by decide) (fun c24 => ?_) (fun c24 => ?_)
        · refine v_iload_n 29 dX4_attribute_29 rfl rfl ?_
          refine v_if_eq (tgt := 56) 30 dX4_attribute_30 (by decide) (fun c30 => ?_) (fun c30 => ?_)
          · refine v_aload_n 56 dX4_attribute_56 rfl rfl ?_
            refine v_getf 57 dX4_attribute_57 fl_X4_27 mPut_o rfl ?_
            refine v_iload_n 60 dX4_attribute_60 rfl rfl ?_
            refine v_iload 61 dX4_attribute_61 rfl ?_
            refine m_ist 63 9 dX4_attribute_63 hds (by obtain ⟨l, hl, rfl⟩ := fit_ix (hfb1 c11); exact vp_in_nI (N := 7) hl (by decide)) ?_
            refine v_iconst (v := 1) 64 dX4_attribute_64 (by decide) ?_
            refine v_iret 65 dX4_attribute_65 rfl rfl ?_
            exact ⟨_, _, rfl, rfl, by simp_all [attrR, mA_n, mI_2]⟩
          · refine v_aload_n 33 dX4_attribute_33 rfl rfl ?_
            refine v_getf 34 dX4_attribute_34 fl_X4_30 mPut_o rfl ?_
            refine v_bipush (v := 7) 37 dX4_attribute_37 (by decide) ?_
            refine v_iload_n 39 dX4_attribute_39 rfl rfl ?_
            refine v_imul 40 dX4_attribute_40 ?_
            refine v_iload_n 41 dX4_attribute_41 rfl rfl ?_
            refine v_iadd 42 dX4_attribute_42 ?_
            refine v_iload 43 dX4_attribute_43 rfl ?_
            refine m_ist 45 10 dX4_attribute_45 hds (by obtain ⟨l, hl, rfl⟩ := fit_ix (hfb1 c11); rcases (show which = 0 ∨ which = 1 from by first | exact Or.inl (by assumption) | exact Or.inr (by assumption) | contradiction) with rfl | rfl <;> (first | (rw [show (7 : Int32) * 0 = nI 0 by decide, nI_add]; exact vp_in_nI (N := 14) (by omega) (by decide)) | (rw [show (7 : Int32) * 1 = nI 7 by decide, nI_add]; exact vp_in_nI (N := 14) (by omega) (by decide)))) ?_
            refine v_aload_n 46 dX4_attribute_46 rfl rfl ?_
            refine v_getf 47 dX4_attribute_47 fl_X4_33 mPut_o rfl ?_
            refine v_iload_n 50 dX4_attribute_50 rfl rfl ?_
            refine v_iconst (v := -1) 51 dX4_attribute_51 (by decide) ?_
            refine m_ist 52 11 dX4_attribute_52 hds (by rcases (show which = 0 ∨ which = 1 from by first | exact Or.inl (by assumption) | exact Or.inr (by assumption) | contradiction) with rfl | rfl <;> (unfold vp_in; decide)) ?_
            refine v_goto (tgt := 64) 53 dX4_attribute_53 (by decide) ?_
            refine v_iconst (v := 1) 64 dX4_attribute_64 (by decide) ?_
            refine v_iret 65 dX4_attribute_65 rfl rfl ?_
            exact ⟨_, _, rfl, rfl, by simp_all [attrR, mA_n, mI_2]⟩
        · refine v_iconst (v := 0) 27 dX4_attribute_27 (by decide) ?_
          refine v_iret 28 dX4_attribute_28 rfl rfl ?_
          exact ⟨_, _, rfl, rfl, by simp_all [attrR, mA_n, mI_2]⟩
def permR (S : MS) (F : Nat) (on : Int32) (S' : MS) (r : Int32) : Prop :=
  (lastIx (S.2 2) (S.1 12) F < 0 ∧ r = 0 ∧ S' = mI S 0 0) ∨
  (∃ k, k < F ∧ lastIx (S.2 2) (S.1 12) F = nI k ∧ S.2 2 k = S.1 12 ∧ ((S.2 4 k = on ∧ r = 0 ∧ S' = mI S 0 0) ∨ (¬ S.2 4 k = on ∧ r = 1 ∧ S' = mA (mI S 0 0) 4 (upd (S.2 4) k (vp_nar .boolean on)))))
set_option maxHeartbeats 4000000 in
set_option maxRecDepth 100000 in
theorem ct_permanent {K : KT} {h : AH} {mo : Nat} {ad : Nat → Nat} {S : MS} {F : Nat} {on : Int32} (hds : mDis mo ad) (hF : S.1 1 = nI F) (hF2 : F ≤ 32) : Ct K mX4_permanent 0 0 [.ref mo, .int on] (mPut h mo ad S) (fun r h' => ∃ (b : Int32) (S' : MS), r = some (.int b) ∧ h' = mPut h mo ad S' ∧ permR S F on S' b) noX := by
  refine ct_of (by decide +kernel) rfl (Nat.le_of_ble_eq_true rfl) rfl ?_
  refine v_aload_n 0 dX4_permanent_0 rfl rfl ?_
  refine v_iconst (v := 0) 1 dX4_permanent_1 (by decide) ?_
  refine m_put 2 dX4_permanent_2 fl_X4_45 ?_
  refine v_aload_n 5 dX4_permanent_5 rfl rfl ?_
  refine v_aload_n 6 dX4_permanent_6 rfl rfl ?_
  refine v_getf 7 dX4_permanent_7 fl_X4_55 mPut_o rfl ?_
  refine m_call 10 [.int (S.1 12)] dX4_permanent_10 cv_X4_86 (ct_fontOf (F := F) hds (by rw [mI_n (by decide)]; exact hF) (by omega)) (fun r h' hq' => ?_)
  obtain ⟨rfl, rfl⟩ := hq'
  refine v_ist2 13 dX4_permanent_13 ?_
  refine v_iload_n 14 dX4_permanent_14 rfl rfl ?_
  refine v_if_lt (tgt := 36) 15 dX4_permanent_15 (by decide) (fun c15 => ?_) (fun c15 => ?_)
  · try rw [nI_clamp (by omega)] at c33
    refine v_iconst (v := 0) 36 dX4_permanent_36 (by decide) ?_
    refine v_iret 37 dX4_permanent_37 rfl rfl ?_
    first | exact ⟨_, _, rfl, rfl, Or.inl ⟨by assumption, rfl, rfl⟩⟩ | exact ⟨_, _, rfl, rfl, Or.inr ⟨k, hk, ek, ik, Or.inl ⟨by simpa [mI_2] using c33, rfl, rfl⟩⟩⟩
  · obtain ⟨k, hk, ek, ik⟩ := lastIx_in (f := S.2 2) (x := S.1 12) (n := F) (by assumption)
    simp only [mI_2, Option.toList, List.cons_append, List.nil_append]
    rw [ek]
    refine v_aload_n 18 dX4_permanent_18 rfl rfl ?_
    refine v_getf 19 dX4_permanent_19 fl_X4_16 mPut_o rfl ?_
    refine v_iload_n 22 dX4_permanent_22 rfl rfl ?_
    refine v_if_ge (tgt := 30) 23 dX4_permanent_23 (by decide) (fun c23 => ?_) (fun c23 => absurd (nI_pos' (by omega)) c23)
    refine v_iload_n 30 dX4_permanent_30 rfl rfl ?_
    refine m_zld 31 4 dX4_permanent_31 hds (vp_in_nI (N := 33) (by omega) (by decide)) ?_
    refine v_iload_n 32 dX4_permanent_32 rfl rfl ?_
    refine v_icmp_ne (tgt := 38) 33 dX4_permanent_33 (by decide) (fun c33 => ?_) (fun c33 => ?_)
    · try rw [nI_clamp (by omega)] at c33
      refine v_aload_n 38 dX4_permanent_38 rfl rfl ?_
      refine v_getf 39 dX4_permanent_39 fl_X4_16 mPut_o rfl ?_
      refine v_iload_n 42 dX4_permanent_42 rfl rfl ?_
      refine v_iload_n 43 dX4_permanent_43 rfl rfl ?_
      refine m_zst 44 4 dX4_permanent_44 hds (vp_in_nI (N := 33) (by omega) (by decide)) ?_
      refine v_iconst (v := 1) 45 dX4_permanent_45 (by decide) ?_
      refine v_iret 46 dX4_permanent_46 rfl rfl ?_
      exact ⟨_, _, rfl, rfl, Or.inr ⟨k, hk, ek, ik, Or.inr ⟨by simpa [mI_2] using c33, rfl, by rw [nI_clamp (by omega)]; rfl⟩⟩⟩
    · try rw [nI_clamp (by omega)] at c33
      refine v_iconst (v := 0) 36 dX4_permanent_36 (by decide) ?_
      refine v_iret 37 dX4_permanent_37 rfl rfl ?_
      first | exact ⟨_, _, rfl, rfl, Or.inl ⟨by assumption, rfl, rfl⟩⟩ | exact ⟨_, _, rfl, rfl, Or.inr ⟨k, hk, ek, ik, Or.inl ⟨by simpa [mI_2] using c33, rfl, rfl⟩⟩⟩

theorem sw_out {n : Nat} {x : Int32} (h : ∀ j : Nat, j ≤ n → x ≠ nI j) : x.toInt < 0 ∨ (n : Int) < x.toInt := by
  by_cases h0 : x < 0
  · exact Or.inl (by simpa using Int32.lt_iff_toInt_lt.mp h0)
  · obtain ⟨j, hj, rfl⟩ := nI_of h0
    rw [nI_toInt hj]
    by_cases hjn : j ≤ n
    · exact absurd rfl (h j hjn)
    · exact Or.inr (by omega)
/-- what value an attribute may have -/
def fitP (w v : Int32) : Prop := (w = 0 ∧ ¬ v < 0 ∧ ¬ 2047 < v) ∨ (w = 1 ∧ (v = 0 ∨ v = 1)) ∨ (w = 2 ∧ ¬ v < 1 ∧ ¬ 57600 < v) ∨ (w = 3 ∧ ¬ v < 1 ∧ ¬ 99999 < v) ∨ (w = 4 ∧ ¬ v < 0 ∧ ¬ 32767 < v) ∨ (w = 5 ∧ ¬ v < -7 ∧ ¬ 7 < v) ∨ (w = 6 ∧ ¬ v < 0 ∧ ¬ 65535 < v)
set_option maxHeartbeats 4000000 in
set_option maxRecDepth 100000 in
theorem ct_thrown {K : KT} {h : AH} {mo : Nat} {ad : Nat → Nat} {S : MS}  : Ct K mX4_thrown 0 0 [.ref mo] (mPut h mo ad S) (fun r h' => r = some (.int (S.1 0)) ∧ h' = mPut h mo ad S) noX := by
  refine ct_of (by decide +kernel) rfl (Nat.le_of_ble_eq_true rfl) rfl ?_
  refine v_aload_n 0 dX4_thrown_0 rfl rfl ?_
  refine v_getf 1 dX4_thrown_1 fl_X4_45 mPut_o rfl ?_
  refine v_iret 4 dX4_thrown_4 rfl rfl ?_
  exact ⟨rfl, rfl⟩
set_option maxHeartbeats 4000000 in
set_option maxRecDepth 100000 in
theorem ct_bytesOf {K : KT} {h : AH} {mo : Nat} {ad : Nat → Nat} {S : MS} {g : Int32} (hds : mDis mo ad) (h1 : vp_in (7 * g + 5) 1799) (h2 : vp_in (7 * g + 4) 1799) : Ct K mX4_bytesOf 0 0 [.ref mo, .int g] (mPut h mo ad S) (fun r h' => r = some (.int (S.2 6 (7 * g + 5).toNatClampNeg * ((S.2 6 (7 * g + 4).toNatClampNeg + 7) / 8))) ∧ h' = mPut h mo ad S) noX := by
  refine ct_of (by decide +kernel) rfl (Nat.le_of_ble_eq_true rfl) rfl ?_
  refine v_aload_n 0 dX4_bytesOf_0 rfl rfl ?_
  refine v_getf 1 dX4_bytesOf_1 fl_X4_20 mPut_o rfl ?_
  refine v_bipush (v := 7) 4 dX4_bytesOf_4 (by decide) ?_
  refine v_iload_n 6 dX4_bytesOf_6 rfl rfl ?_
  refine v_imul 7 dX4_bytesOf_7 ?_
  refine v_iconst (v := 5) 8 dX4_bytesOf_8 (by decide) ?_
  refine v_iadd 9 dX4_bytesOf_9 ?_
  refine m_ild 10 6 dX4_bytesOf_10 hds h1 ?_
  refine v_aload_n 11 dX4_bytesOf_11 rfl rfl ?_
  refine v_getf 12 dX4_bytesOf_12 fl_X4_20 mPut_o rfl ?_
  refine v_bipush (v := 7) 15 dX4_bytesOf_15 (by decide) ?_
  refine v_iload_n 17 dX4_bytesOf_17 rfl rfl ?_
  refine v_imul 18 dX4_bytesOf_18 ?_
  refine v_iconst (v := 4) 19 dX4_bytesOf_19 (by decide) ?_
  refine v_iadd 20 dX4_bytesOf_20 ?_
  refine m_ild 21 6 dX4_bytesOf_21 hds h2 ?_
  refine v_bipush (v := 7) 22 dX4_bytesOf_22 (by decide) ?_
  refine v_iadd 24 dX4_bytesOf_24 ?_
  refine v_bipush (v := 8) 25 dX4_bytesOf_25 (by decide) ?_
  refine v_idiv 27 dX4_bytesOf_27 (by decide) ?_
  refine v_imul 28 dX4_bytesOf_28 ?_
  refine v_iret 29 dX4_bytesOf_29 rfl rfl ?_
  exact ⟨rfl, rfl⟩
set_option maxHeartbeats 4000000 in
set_option maxRecDepth 100000 in
theorem ct_fits {K : KT} {h : AH} {w v : Int32} : Ct K mX4_fits 0 0 [.int w, .int v] h (fun r h' => ∃ b : Int32, r = some (.int b) ∧ h' = h ∧ ((fitP w v ∧ b = 1) ∨ (¬ fitP w v ∧ b = 0))) noX := by
  refine ct_of (by decide +kernel) rfl (Nat.le_of_ble_eq_true rfl) rfl ?_
  refine v_iload_n 0 dX4_fits_0 rfl rfl ?_
  by_cases w1_0 : w = 0
  · refine v_tableIn (tgt := 40) 1 dX4_fits_1 (by rw [w1_0]; decide) (by rw [w1_0]; decide) (by rw [w1_0]; rfl) (by decide) ?_
    refine v_iload_n 40 dX4_fits_40 rfl rfl ?_
    refine v_if_lt (tgt := 55) 41 dX4_fits_41 (by decide) (fun c41 => ?_) (fun c41 => ?_)
    · refine v_iconst (v := 0) 55 dX4_fits_55 (by decide) ?_
      refine v_iret 56 dX4_fits_56 rfl rfl ?_
      exact ⟨_, rfl, rfl, by simp_all [fitP]⟩
    · refine v_iload_n 44 dX4_fits_44 rfl rfl ?_
      refine v_sipush (v := 2047) 45 dX4_fits_45 (by decide) ?_
      refine v_icmp_gt (tgt := 55) 48 dX4_fits_48 (by decide) (fun c48 => ?_) (fun c48 => ?_)
      · refine v_iconst (v := 0) 55 dX4_fits_55 (by decide) ?_
        refine v_iret 56 dX4_fits_56 rfl rfl ?_
        exact ⟨_, rfl, rfl, by simp_all [fitP]⟩
      · refine v_iconst (v := 1) 51 dX4_fits_51 (by decide) ?_
        refine v_goto (tgt := 56) 52 dX4_fits_52 (by decide) ?_
        refine v_iret 56 dX4_fits_56 rfl rfl ?_
        exact ⟨_, rfl, rfl, by simp_all [fitP]⟩
  by_cases w1_1 : w = 1
  · refine v_tableIn (tgt := 57) 1 dX4_fits_1 (by rw [w1_1]; decide) (by rw [w1_1]; decide) (by rw [w1_1]; rfl) (by decide) ?_
    refine v_iload_n 57 dX4_fits_57 rfl rfl ?_
    refine v_if_eq (tgt := 66) 58 dX4_fits_58 (by decide) (fun c58 => ?_) (fun c58 => ?_)
    · refine v_iconst (v := 1) 66 dX4_fits_66 (by decide) ?_
      refine v_goto (tgt := 71) 67 dX4_fits_67 (by decide) ?_
      refine v_iret 71 dX4_fits_71 rfl rfl ?_
      exact ⟨_, rfl, rfl, by simp_all [fitP]⟩
    · refine v_iload_n 61 dX4_fits_61 rfl rfl ?_
      refine v_iconst (v := 1) 62 dX4_fits_62 (by decide) ?_
      refine v_icmp_ne (tgt := 70) 63 dX4_fits_63 (by decide) (fun c63 => ?_) (fun c63 => ?_)
      · refine v_iconst (v := 0) 70 dX4_fits_70 (by decide) ?_
        refine v_iret 71 dX4_fits_71 rfl rfl ?_
        exact ⟨_, rfl, rfl, by simp_all [fitP]⟩
      · refine v_iconst (v := 1) 66 dX4_fits_66 (by decide) ?_
        refine v_goto (tgt := 71) 67 dX4_fits_67 (by decide) ?_
        refine v_iret 71 dX4_fits_71 rfl rfl ?_
        exact ⟨_, rfl, rfl, by simp_all [fitP]⟩
  by_cases w1_2 : w = 2
  · refine v_tableIn (tgt := 72) 1 dX4_fits_1 (by rw [w1_2]; decide) (by rw [w1_2]; decide) (by rw [w1_2]; rfl) (by decide) ?_
    refine v_iload_n 72 dX4_fits_72 rfl rfl ?_
    refine v_iconst (v := 1) 73 dX4_fits_73 (by decide) ?_
    refine v_icmp_lt (tgt := 87) 74 dX4_fits_74 (by decide) (fun c74 => ?_) (fun c74 => ?_)
    · refine v_iconst (v := 0) 87 dX4_fits_87 (by decide) ?_
      refine v_iret 88 dX4_fits_88 rfl rfl ?_
      exact ⟨_, rfl, rfl, by simp_all [fitP]⟩
    · refine v_iload_n 77 dX4_fits_77 rfl rfl ?_
      refine v_ldc 78 dX4_fits_78 kc_X4_49 ?_
      refine v_icmp_gt (tgt := 87) 80 dX4_fits_80 (by decide) (fun c80 => ?_) (fun c80 => ?_)
      · refine v_iconst (v := 0) 87 dX4_fits_87 (by decide) ?_
        refine v_iret 88 dX4_fits_88 rfl rfl ?_
        exact ⟨_, rfl, rfl, by simp_all [fitP]⟩
      · refine v_iconst (v := 1) 83 dX4_fits_83 (by decide) ?_
        refine v_goto (tgt := 88) 84 dX4_fits_84 (by decide) ?_
        refine v_iret 88 dX4_fits_88 rfl rfl ?_
        exact ⟨_, rfl, rfl, by simp_all [fitP]⟩
  by_cases w1_3 : w = 3
  · refine v_tableIn (tgt := 89) 1 dX4_fits_1 (by rw [w1_3]; decide) (by rw [w1_3]; decide) (by rw [w1_3]; rfl) (by decide) ?_
    refine v_iload_n 89 dX4_fits_89 rfl rfl ?_
    refine v_iconst (v := 1) 90 dX4_fits_90 (by decide) ?_
    refine v_icmp_lt (tgt := 104) 91 dX4_fits_91 (by decide) (fun c91 => ?_) (fun c91 => ?_)
    · refine v_iconst (v := 0) 104 dX4_fits_104 (by decide) ?_
      refine v_iret 105 dX4_fits_105 rfl rfl ?_
      exact ⟨_, rfl, rfl, by simp_all [fitP]⟩
    · refine v_iload_n 94 dX4_fits_94 rfl rfl ?_
      refine v_ldc 95 dX4_fits_95 kc_X4_50 ?_
      refine v_icmp_gt (tgt := 104) 97 dX4_fits_97 (by decide) (fun c97 => ?_) (fun c97 => ?_)
      · refine v_iconst (v := 0) 104 dX4_fits_104 (by decide) ?_
        refine v_iret 105 dX4_fits_105 rfl rfl ?_
        exact ⟨_, rfl, rfl, by simp_all [fitP]⟩
      · refine v_iconst (v := 1) 100 dX4_fits_100 (by decide) ?_
        refine v_goto (tgt := 105) 101 dX4_fits_101 (by decide) ?_
        refine v_iret 105 dX4_fits_105 rfl rfl ?_
        exact ⟨_, rfl, rfl, by simp_all [fitP]⟩
  by_cases w1_4 : w = 4
  · refine v_tableIn (tgt := 106) 1 dX4_fits_1 (by rw [w1_4]; decide) (by rw [w1_4]; decide) (by rw [w1_4]; rfl) (by decide) ?_
    refine v_iload_n 106 dX4_fits_106 rfl rfl ?_
    refine v_if_lt (tgt := 121) 107 dX4_fits_107 (by decide) (fun c107 => ?_) (fun c107 => ?_)
    · refine v_iconst (v := 0) 121 dX4_fits_121 (by decide) ?_
      refine v_iret 122 dX4_fits_122 rfl rfl ?_
      exact ⟨_, rfl, rfl, by simp_all [fitP]⟩
    · refine v_iload_n 110 dX4_fits_110 rfl rfl ?_
      refine v_sipush (v := 32767) 111 dX4_fits_111 (by decide) ?_
      refine v_icmp_gt (tgt := 121) 114 dX4_fits_114 (by decide) (fun c114 => ?_) (fun c114 => ?_)
      · refine v_iconst (v := 0) 121 dX4_fits_121 (by decide) ?_
        refine v_iret 122 dX4_fits_122 rfl rfl ?_
        exact ⟨_, rfl, rfl, by simp_all [fitP]⟩
      · refine v_iconst (v := 1) 117 dX4_fits_117 (by decide) ?_
        refine v_goto (tgt := 122) 118 dX4_fits_118 (by decide) ?_
        refine v_iret 122 dX4_fits_122 rfl rfl ?_
        exact ⟨_, rfl, rfl, by simp_all [fitP]⟩
  by_cases w1_5 : w = 5
  · refine v_tableIn (tgt := 123) 1 dX4_fits_1 (by rw [w1_5]; decide) (by rw [w1_5]; decide) (by rw [w1_5]; rfl) (by decide) ?_
    refine v_iload_n 123 dX4_fits_123 rfl rfl ?_
    refine v_bipush (v := -7) 124 dX4_fits_124 (by decide) ?_
    refine v_icmp_lt (tgt := 139) 126 dX4_fits_126 (by decide) (fun c126 => ?_) (fun c126 => ?_)
    · refine v_iconst (v := 0) 139 dX4_fits_139 (by decide) ?_
      refine v_iret 140 dX4_fits_140 rfl rfl ?_
      exact ⟨_, rfl, rfl, by simp_all [fitP]⟩
    · refine v_iload_n 129 dX4_fits_129 rfl rfl ?_
      refine v_bipush (v := 7) 130 dX4_fits_130 (by decide) ?_
      refine v_icmp_gt (tgt := 139) 132 dX4_fits_132 (by decide) (fun c132 => ?_) (fun c132 => ?_)
      · refine v_iconst (v := 0) 139 dX4_fits_139 (by decide) ?_
        refine v_iret 140 dX4_fits_140 rfl rfl ?_
        exact ⟨_, rfl, rfl, by simp_all [fitP]⟩
      · refine v_iconst (v := 1) 135 dX4_fits_135 (by decide) ?_
        refine v_goto (tgt := 140) 136 dX4_fits_136 (by decide) ?_
        refine v_iret 140 dX4_fits_140 rfl rfl ?_
        exact ⟨_, rfl, rfl, by simp_all [fitP]⟩
  refine v_tableOut (tgt := 141) 1 dX4_fits_1 (sw_out (n := 5) (fun j hj e9 => by
    rcases (show j = 0 ∨ j = 1 ∨ j = 2 ∨ j = 3 ∨ j = 4 ∨ j = 5 by omega) with rfl | rfl | rfl | rfl | rfl | rfl
    · exact w1_0 (e9.trans (by decide))
    · exact w1_1 (e9.trans (by decide))
    · exact w1_2 (e9.trans (by decide))
    · exact w1_3 (e9.trans (by decide))
    · exact w1_4 (e9.trans (by decide))
    · exact w1_5 (e9.trans (by decide))
    )) (by decide) ?_
  refine v_iload_n 141 dX4_fits_141 rfl rfl ?_
  refine v_bipush (v := 6) 142 dX4_fits_142 (by decide) ?_
  refine v_icmp_ne (tgt := 161) 144 dX4_fits_144 (by decide) (fun c144 => ?_) (fun c144 => ?_)
  · refine v_iconst (v := 0) 161 dX4_fits_161 (by decide) ?_
    refine v_iret 162 dX4_fits_162 rfl rfl ?_
    exact ⟨_, rfl, rfl, by simp_all [fitP]⟩
  · refine v_iload_n 147 dX4_fits_147 rfl rfl ?_
    refine v_if_lt (tgt := 161) 148 dX4_fits_148 (by decide) (fun c148 => ?_) (fun c148 => ?_)
    · refine v_iconst (v := 0) 161 dX4_fits_161 (by decide) ?_
      refine v_iret 162 dX4_fits_162 rfl rfl ?_
      exact ⟨_, rfl, rfl, by simp_all [fitP]⟩
    · refine v_iload_n 151 dX4_fits_151 rfl rfl ?_
      refine v_ldc 152 dX4_fits_152 kc_X4_51 ?_
      refine v_icmp_gt (tgt := 161) 154 dX4_fits_154 (by decide) (fun c154 => ?_) (fun c154 => ?_)
      · refine v_iconst (v := 0) 161 dX4_fits_161 (by decide) ?_
        refine v_iret 162 dX4_fits_162 rfl rfl ?_
        exact ⟨_, rfl, rfl, by simp_all [fitP]⟩
      · refine v_iconst (v := 1) 157 dX4_fits_157 (by decide) ?_
        refine v_goto (tgt := 162) 158 dX4_fits_158 (by decide) ?_
        refine v_iret 162 dX4_fits_162 rfl rfl ?_
        exact ⟨_, rfl, rfl, by simp_all [fitP]⟩

def handM (S : MS) (b n : Int32) : MS × Int32 := if n < 0 ∨ ¬ n ≤ (if b = 0 then 32767 else 255) then (mI S 0 0, 0) else (mI (mI (mI (mI S 0 0) 13 (if b = 0 then S.1 13 else n)) 12 (if b = 0 then n else S.1 12)) 14 0, 1)
def lookM (S : MS) (w : Int32) : MS × Int32 := (mI S 0 0, if w = 0 then S.1 1 else if w = 1 then S.1 5 else if w = 2 then S.1 7 else if w = 3 then S.1 12 else if w = 4 then S.1 13 else if w = 5 then (if S.1 14 = 0 then -1 else S.1 16 - S.1 17) else -1)
def bad (c : Prop) : Prop := c
set_option maxHeartbeats 4000000 in
set_option maxRecDepth 100000 in
theorem ct_hand {K : KT} {h : AH} {mo : Nat} {ad : Nat → Nat} {S : MS} {b n : Int32} : Ct K mX4_hand 0 0 [.ref mo, .int b, .int n] (mPut h mo ad S) (fun r h' => r = some (.int (handM S b n).2) ∧ h' = mPut h mo ad (handM S b n).1) noX := by
  refine ct_of (by decide +kernel) rfl (Nat.le_of_ble_eq_true rfl) rfl ?_
  refine v_aload_n 0 dX4_hand_0 rfl rfl ?_
  refine v_iconst (v := 0) 1 dX4_hand_1 (by decide) ?_
  refine m_put 2 dX4_hand_2 fl_X4_45 ?_
  refine v_iload_n 5 dX4_hand_5 rfl rfl ?_
  refine v_if_lt (tgt := 26) 6 dX4_hand_6 (by decide) (fun c6 => ?_) (fun c6 => ?_)
  · refine v_iconst (v := 0) 26 dX4_hand_26 (by decide) ?_
    refine v_iret 27 dX4_hand_27 rfl rfl ?_
    exact ⟨by simp_all [handM, mI_n, mI_s, mI_2, mA_1, mA_n, mA_s, -Int32.not_lt, -Int32.not_le], by simp_all [handM, mI_n, mI_s, mI_2, mA_1, mA_n, mA_s, -Int32.not_lt, -Int32.not_le]⟩
  · refine v_iload_n 9 dX4_hand_9 rfl rfl ?_
    refine v_iload_n 10 dX4_hand_10 rfl rfl ?_
    refine v_if_eq (tgt := 20) 11 dX4_hand_11 (by decide) (fun c11 => ?_) (fun c11 => ?_)
    · refine v_sipush (v := 32767) 20 dX4_hand_20 (by decide) ?_
      refine v_icmp_le (tgt := 28) 23 dX4_hand_23 (by decide) (fun c23 => ?_) (fun c23 => ?_)
      · refine v_aload_n 28 dX4_hand_28 rfl rfl ?_
        refine v_iload_n 29 dX4_hand_29 rfl rfl ?_
        refine v_if_eq (tgt := 37) 30 dX4_hand_30 (by decide) (fun c30 => ?_) (fun c30 => ?_)
        · refine v_aload_n 37 dX4_hand_37 rfl rfl ?_
          refine v_getf 38 dX4_hand_38 fl_X4_52 mPut_o rfl ?_
          refine m_put 41 dX4_hand_41 fl_X4_52 ?_
          refine v_aload_n 44 dX4_hand_44 rfl rfl ?_
          refine v_iload_n 45 dX4_hand_45 rfl rfl ?_
          refine v_if_eq (tgt := 56) 46 dX4_hand_46 (by decide) (fun c46 => ?_) (fun c46 => ?_)
          · refine v_iload_n 56 dX4_hand_56 rfl rfl ?_
            refine m_put 57 dX4_hand_57 fl_X4_55 ?_
            refine v_aload_n 60 dX4_hand_60 rfl rfl ?_
            refine v_iconst (v := 0) 61 dX4_hand_61 (by decide) ?_
            refine m_put 62 dX4_hand_62 fl_X4_58 ?_
            refine v_iconst (v := 1) 65 dX4_hand_65 (by decide) ?_
            refine v_iret 66 dX4_hand_66 rfl rfl ?_
            exact ⟨by simp_all [handM, mI_n, mI_s, mI_2, mA_1, mA_n, mA_s, -Int32.not_lt, -Int32.not_le], by simp_all [handM, mI_n, mI_s, mI_2, mA_1, mA_n, mA_s, -Int32.not_lt, -Int32.not_le]⟩
          · refine v_aload_n 49 dX4_hand_49 rfl rfl ?_
            refine v_getf 50 dX4_hand_50 fl_X4_55 mPut_o rfl ?_
            refine v_goto (tgt := 57) 53 dX4_hand_53 (by decide) ?_
            refine m_put 57 dX4_hand_57 fl_X4_55 ?_
            refine v_aload_n 60 dX4_hand_60 rfl rfl ?_
            refine v_iconst (v := 0) 61 dX4_hand_61 (by decide) ?_
            refine m_put 62 dX4_hand_62 fl_X4_58 ?_
            refine v_iconst (v := 1) 65 dX4_hand_65 (by decide) ?_
            refine v_iret 66 dX4_hand_66 rfl rfl ?_
            exact ⟨by simp_all [handM, mI_n, mI_s, mI_2, mA_1, mA_n, mA_s, -Int32.not_lt, -Int32.not_le], by simp_all [handM, mI_n, mI_s, mI_2, mA_1, mA_n, mA_s, -Int32.not_lt, -Int32.not_le]⟩
        · refine v_iload_n 33 dX4_hand_33 rfl rfl ?_
          refine v_goto (tgt := 41) 34 dX4_hand_34 (by decide) ?_
          refine m_put 41 dX4_hand_41 fl_X4_52 ?_
          refine v_aload_n 44 dX4_hand_44 rfl rfl ?_
          refine v_iload_n 45 dX4_hand_45 rfl rfl ?_
          refine v_if_eq (tgt := 56) 46 dX4_hand_46 (by decide) (fun c46 => ?_) (fun c46 => ?_)
          · refine v_iload_n 56 dX4_hand_56 rfl rfl ?_
            refine m_put 57 dX4_hand_57 fl_X4_55 ?_
            refine v_aload_n 60 dX4_hand_60 rfl rfl ?_
            refine v_iconst (v := 0) 61 dX4_hand_61 (by decide) ?_
            refine m_put 62 dX4_hand_62 fl_X4_58 ?_
            refine v_iconst (v := 1) 65 dX4_hand_65 (by decide) ?_
            refine v_iret 66 dX4_hand_66 rfl rfl ?_
            exact ⟨by simp_all [handM, mI_n, mI_s, mI_2, mA_1, mA_n, mA_s, -Int32.not_lt, -Int32.not_le], by simp_all [handM, mI_n, mI_s, mI_2, mA_1, mA_n, mA_s, -Int32.not_lt, -Int32.not_le]⟩
          · refine v_aload_n 49 dX4_hand_49 rfl rfl ?_
            refine v_getf 50 dX4_hand_50 fl_X4_55 mPut_o rfl ?_
            refine v_goto (tgt := 57) 53 dX4_hand_53 (by decide) ?_
            refine m_put 57 dX4_hand_57 fl_X4_55 ?_
            refine v_aload_n 60 dX4_hand_60 rfl rfl ?_
            refine v_iconst (v := 0) 61 dX4_hand_61 (by decide) ?_
            refine m_put 62 dX4_hand_62 fl_X4_58 ?_
            refine v_iconst (v := 1) 65 dX4_hand_65 (by decide) ?_
            refine v_iret 66 dX4_hand_66 rfl rfl ?_
            exact ⟨by simp_all [handM, mI_n, mI_s, mI_2, mA_1, mA_n, mA_s, -Int32.not_lt, -Int32.not_le], by simp_all [handM, mI_n, mI_s, mI_2, mA_1, mA_n, mA_s, -Int32.not_lt, -Int32.not_le]⟩
      · refine v_iconst (v := 0) 26 dX4_hand_26 (by decide) ?_
        refine v_iret 27 dX4_hand_27 rfl rfl ?_
        exact ⟨by simp_all [handM, mI_n, mI_s, mI_2, mA_1, mA_n, mA_s, -Int32.not_lt, -Int32.not_le], by simp_all [handM, mI_n, mI_s, mI_2, mA_1, mA_n, mA_s, -Int32.not_lt, -Int32.not_le]⟩
    · refine v_sipush (v := 255) 14 dX4_hand_14 (by decide) ?_
      refine v_goto (tgt := 23) 17 dX4_hand_17 (by decide) ?_
      refine v_icmp_le (tgt := 28) 23 dX4_hand_23 (by decide) (fun c23 => ?_) (fun c23 => ?_)
      · refine v_aload_n 28 dX4_hand_28 rfl rfl ?_
        refine v_iload_n 29 dX4_hand_29 rfl rfl ?_
        refine v_if_eq (tgt := 37) 30 dX4_hand_30 (by decide) (fun c30 => ?_) (fun c30 => ?_)
        · refine v_aload_n 37 dX4_hand_37 rfl rfl ?_
          refine v_getf 38 dX4_hand_38 fl_X4_52 mPut_o rfl ?_
          refine m_put 41 dX4_hand_41 fl_X4_52 ?_
          refine v_aload_n 44 dX4_hand_44 rfl rfl ?_
          refine v_iload_n 45 dX4_hand_45 rfl rfl ?_
          refine v_if_eq (tgt := 56) 46 dX4_hand_46 (by decide) (fun c46 => ?_) (fun c46 => ?_)
          · refine v_iload_n 56 dX4_hand_56 rfl rfl ?_
            refine m_put 57 dX4_hand_57 fl_X4_55 ?_
            refine v_aload_n 60 dX4_hand_60 rfl rfl ?_
            refine v_iconst (v := 0) 61 dX4_hand_61 (by decide) ?_
            refine m_put 62 dX4_hand_62 fl_X4_58 ?_
            refine v_iconst (v := 1) 65 dX4_hand_65 (by decide) ?_
            refine v_iret 66 dX4_hand_66 rfl rfl ?_
            exact ⟨by simp_all [handM, mI_n, mI_s, mI_2, mA_1, mA_n, mA_s, -Int32.not_lt, -Int32.not_le], by simp_all [handM, mI_n, mI_s, mI_2, mA_1, mA_n, mA_s, -Int32.not_lt, -Int32.not_le]⟩
          · refine v_aload_n 49 dX4_hand_49 rfl rfl ?_
            refine v_getf 50 dX4_hand_50 fl_X4_55 mPut_o rfl ?_
            refine v_goto (tgt := 57) 53 dX4_hand_53 (by decide) ?_
            refine m_put 57 dX4_hand_57 fl_X4_55 ?_
            refine v_aload_n 60 dX4_hand_60 rfl rfl ?_
            refine v_iconst (v := 0) 61 dX4_hand_61 (by decide) ?_
            refine m_put 62 dX4_hand_62 fl_X4_58 ?_
            refine v_iconst (v := 1) 65 dX4_hand_65 (by decide) ?_
            refine v_iret 66 dX4_hand_66 rfl rfl ?_
            exact ⟨by simp_all [handM, mI_n, mI_s, mI_2, mA_1, mA_n, mA_s, -Int32.not_lt, -Int32.not_le], by simp_all [handM, mI_n, mI_s, mI_2, mA_1, mA_n, mA_s, -Int32.not_lt, -Int32.not_le]⟩
        · refine v_iload_n 33 dX4_hand_33 rfl rfl ?_
          refine v_goto (tgt := 41) 34 dX4_hand_34 (by decide) ?_
          refine m_put 41 dX4_hand_41 fl_X4_52 ?_
          refine v_aload_n 44 dX4_hand_44 rfl rfl ?_
          refine v_iload_n 45 dX4_hand_45 rfl rfl ?_
          refine v_if_eq (tgt := 56) 46 dX4_hand_46 (by decide) (fun c46 => ?_) (fun c46 => ?_)
          · refine v_iload_n 56 dX4_hand_56 rfl rfl ?_
            refine m_put 57 dX4_hand_57 fl_X4_55 ?_
            refine v_aload_n 60 dX4_hand_60 rfl rfl ?_
            refine v_iconst (v := 0) 61 dX4_hand_61 (by decide) ?_
            refine m_put 62 dX4_hand_62 fl_X4_58 ?_
            refine v_iconst (v := 1) 65 dX4_hand_65 (by decide) ?_
            refine v_iret 66 dX4_hand_66 rfl rfl ?_
            exact ⟨by simp_all [handM, mI_n, mI_s, mI_2, mA_1, mA_n, mA_s, -Int32.not_lt, -Int32.not_le], by simp_all [handM, mI_n, mI_s, mI_2, mA_1, mA_n, mA_s, -Int32.not_lt, -Int32.not_le]⟩
          · refine v_aload_n 49 dX4_hand_49 rfl rfl ?_
            refine v_getf 50 dX4_hand_50 fl_X4_55 mPut_o rfl ?_
            refine v_goto (tgt := 57) 53 dX4_hand_53 (by decide) ?_
            refine m_put 57 dX4_hand_57 fl_X4_55 ?_
            refine v_aload_n 60 dX4_hand_60 rfl rfl ?_
            refine v_iconst (v := 0) 61 dX4_hand_61 (by decide) ?_
            refine m_put 62 dX4_hand_62 fl_X4_58 ?_
            refine v_iconst (v := 1) 65 dX4_hand_65 (by decide) ?_
            refine v_iret 66 dX4_hand_66 rfl rfl ?_
            exact ⟨by simp_all [handM, mI_n, mI_s, mI_2, mA_1, mA_n, mA_s, -Int32.not_lt, -Int32.not_le], by simp_all [handM, mI_n, mI_s, mI_2, mA_1, mA_n, mA_s, -Int32.not_lt, -Int32.not_le]⟩
      · refine v_iconst (v := 0) 26 dX4_hand_26 (by decide) ?_
        refine v_iret 27 dX4_hand_27 rfl rfl ?_
        exact ⟨by simp_all [handM, mI_n, mI_s, mI_2, mA_1, mA_n, mA_s, -Int32.not_lt, -Int32.not_le], by simp_all [handM, mI_n, mI_s, mI_2, mA_1, mA_n, mA_s, -Int32.not_lt, -Int32.not_le]⟩
set_option maxHeartbeats 4000000 in
set_option maxRecDepth 100000 in
theorem ct_look {K : KT} {h : AH} {mo : Nat} {ad : Nat → Nat} {S : MS} {w : Int32} : Ct K mX4_look 0 0 [.ref mo, .int w] (mPut h mo ad S) (fun r h' => r = some (.int (lookM S w).2) ∧ h' = mPut h mo ad (lookM S w).1) noX := by
  refine ct_of (by decide +kernel) rfl (Nat.le_of_ble_eq_true rfl) rfl ?_
  refine v_aload_n 0 dX4_look_0 rfl rfl ?_
  refine v_iconst (v := 0) 1 dX4_look_1 (by decide) ?_
  refine m_put 2 dX4_look_2 fl_X4_45 ?_
  refine v_iload_n 5 dX4_look_5 rfl rfl ?_
  by_cases w6_0 : w = 0
  · refine v_tableIn (tgt := 44) 6 dX4_look_6 (by rw [w6_0]; decide) (by rw [w6_0]; decide) (by rw [w6_0]; rfl) (by decide) ?_
    refine v_aload_n 44 dX4_look_44 rfl rfl ?_
    refine v_getf 45 dX4_look_45 fl_X4_66 mPut_o rfl ?_
    refine v_iret 48 dX4_look_48 rfl rfl ?_
    exact ⟨by simp_all [lookM, mI_n, mI_s, mI_2, mA_1, mA_n, mA_s, -Int32.not_lt, -Int32.not_le], by simp_all [lookM, mI_n, mI_s, mI_2, mA_1, mA_n, mA_s, -Int32.not_lt, -Int32.not_le]⟩
  by_cases w6_1 : w = 1
  · refine v_tableIn (tgt := 49) 6 dX4_look_6 (by rw [w6_1]; decide) (by rw [w6_1]; decide) (by rw [w6_1]; rfl) (by decide) ?_
    refine v_aload_n 49 dX4_look_49 rfl rfl ?_
    refine v_getf 50 dX4_look_50 fl_X4_73 mPut_o rfl ?_
    refine v_iret 53 dX4_look_53 rfl rfl ?_
    exact ⟨by simp_all [lookM, mI_n, mI_s, mI_2, mA_1, mA_n, mA_s, -Int32.not_lt, -Int32.not_le], by simp_all [lookM, mI_n, mI_s, mI_2, mA_1, mA_n, mA_s, -Int32.not_lt, -Int32.not_le]⟩
  by_cases w6_2 : w = 2
  · refine v_tableIn (tgt := 54) 6 dX4_look_6 (by rw [w6_2]; decide) (by rw [w6_2]; decide) (by rw [w6_2]; rfl) (by decide) ?_
    refine v_aload_n 54 dX4_look_54 rfl rfl ?_
    refine v_getf 55 dX4_look_55 fl_X4_79 mPut_o rfl ?_
    refine v_iret 58 dX4_look_58 rfl rfl ?_
    exact ⟨by simp_all [lookM, mI_n, mI_s, mI_2, mA_1, mA_n, mA_s, -Int32.not_lt, -Int32.not_le], by simp_all [lookM, mI_n, mI_s, mI_2, mA_1, mA_n, mA_s, -Int32.not_lt, -Int32.not_le]⟩
  by_cases w6_3 : w = 3
  · refine v_tableIn (tgt := 59) 6 dX4_look_6 (by rw [w6_3]; decide) (by rw [w6_3]; decide) (by rw [w6_3]; rfl) (by decide) ?_
    refine v_aload_n 59 dX4_look_59 rfl rfl ?_
    refine v_getf 60 dX4_look_60 fl_X4_55 mPut_o rfl ?_
    refine v_iret 63 dX4_look_63 rfl rfl ?_
    exact ⟨by simp_all [lookM, mI_n, mI_s, mI_2, mA_1, mA_n, mA_s, -Int32.not_lt, -Int32.not_le], by simp_all [lookM, mI_n, mI_s, mI_2, mA_1, mA_n, mA_s, -Int32.not_lt, -Int32.not_le]⟩
  by_cases w6_4 : w = 4
  · refine v_tableIn (tgt := 64) 6 dX4_look_6 (by rw [w6_4]; decide) (by rw [w6_4]; decide) (by rw [w6_4]; rfl) (by decide) ?_
    refine v_aload_n 64 dX4_look_64 rfl rfl ?_
    refine v_getf 65 dX4_look_65 fl_X4_52 mPut_o rfl ?_
    refine v_iret 68 dX4_look_68 rfl rfl ?_
    exact ⟨by simp_all [lookM, mI_n, mI_s, mI_2, mA_1, mA_n, mA_s, -Int32.not_lt, -Int32.not_le], by simp_all [lookM, mI_n, mI_s, mI_2, mA_1, mA_n, mA_s, -Int32.not_lt, -Int32.not_le]⟩
  by_cases w6_5 : w = 5
  · refine v_tableIn (tgt := 69) 6 dX4_look_6 (by rw [w6_5]; decide) (by rw [w6_5]; decide) (by rw [w6_5]; rfl) (by decide) ?_
    refine v_aload_n 69 dX4_look_69 rfl rfl ?_
    refine v_getf 70 dX4_look_70 fl_X4_58 mPut_o rfl ?_
    refine v_if_eq (tgt := 88) 73 dX4_look_73 (by decide) (fun c73 => ?_) (fun c73 => ?_)
    · refine v_iconst (v := -1) 88 dX4_look_88 (by decide) ?_
      refine v_iret 89 dX4_look_89 rfl rfl ?_
      exact ⟨by simp_all [lookM, mI_n, mI_s, mI_2, mA_1, mA_n, mA_s, -Int32.not_lt, -Int32.not_le], by simp_all [lookM, mI_n, mI_s, mI_2, mA_1, mA_n, mA_s, -Int32.not_lt, -Int32.not_le]⟩
    · refine v_aload_n 76 dX4_look_76 rfl rfl ?_
      refine v_getf 77 dX4_look_77 fl_X4_92 mPut_o rfl ?_
      refine v_aload_n 80 dX4_look_80 rfl rfl ?_
      refine v_getf 81 dX4_look_81 fl_X4_95 mPut_o rfl ?_
      refine v_isub 84 dX4_look_84 ?_
      refine v_goto (tgt := 89) 85 dX4_look_85 (by decide) ?_
      refine v_iret 89 dX4_look_89 rfl rfl ?_
      exact ⟨by simp_all [lookM, mI_n, mI_s, mI_2, mA_1, mA_n, mA_s, -Int32.not_lt, -Int32.not_le], by simp_all [lookM, mI_n, mI_s, mI_2, mA_1, mA_n, mA_s, -Int32.not_lt, -Int32.not_le]⟩
  refine v_tableOut (tgt := 90) 6 dX4_look_6 (sw_out (n := 5) (fun j hj e9 => by
    rcases (show j = 0 ∨ j = 1 ∨ j = 2 ∨ j = 3 ∨ j = 4 ∨ j = 5 by omega) with rfl | rfl | rfl | rfl | rfl | rfl
    · exact w6_0 (e9.trans (by decide))
    · exact w6_1 (e9.trans (by decide))
    · exact w6_2 (e9.trans (by decide))
    · exact w6_3 (e9.trans (by decide))
    · exact w6_4 (e9.trans (by decide))
    · exact w6_5 (e9.trans (by decide))
    )) (by decide) ?_
  refine v_iconst (v := -1) 90 dX4_look_90 (by decide) ?_
  refine v_iret 91 dX4_look_91 rfl rfl ?_
  exact ⟨by simp_all [lookM, mI_n, mI_s, mI_2, mA_1, mA_n, mA_s, -Int32.not_lt, -Int32.not_le], by simp_all [lookM, mI_n, mI_s, mI_2, mA_1, mA_n, mA_s, -Int32.not_lt, -Int32.not_le]⟩
def wishM (S : MS) (which w : Int32) : MS × Int32 := if which < 0 ∨ 2 < which ∨ w < 0 ∨ ¬ w ≤ 7 then (mI S 0 1, 0) else (mI S 0 0, if which = 2 then (if w = 7 then S.1 12 else S.2 9 w.toNatClampNeg) else if w = 7 then S.2 11 which.toNatClampNeg else S.2 10 (7 * which + w).toNatClampNeg)
theorem in_of {x : Int32} {n : Nat} (h0 : ¬ x < 0) (h1 : x < nI n) (hn : n < 2 ^ 31) : vp_in x n := by
  obtain ⟨j, hj, rfl⟩ := nI_of h0
  exact vp_in_nI ((nI_ltI hj hn).mp h1) hn
theorem lt_of_le_ne {x y : Int32} (h : x ≤ y) (hn : ¬ x = y) : ¬ y ≤ x := fun h2 => hn (Int32.le_antisymm h h2)
theorem i_lt {x y : Int32} (h : ¬ y ≤ x) : x < y := Int32.not_le.mp h
theorem i_le {x y : Int32} (h : ¬ y < x) : x ≤ y := Int32.not_lt.mp h
/-- an int between 0 and a literal is one of the numbers -/
theorem i_num {x : Int32} {n : Nat} (h0 : ¬ x < 0) (h1 : x ≤ nI n) (hn : n < 2 ^ 31) : ∃ j : Nat, j ≤ n ∧ x = nI j := by
  obtain ⟨j, hj, rfl⟩ := nI_of h0
  exact ⟨j, (nI_leI hj hn).mp h1, rfl⟩
theorem in_2 {x : Int32} (h0 : ¬ x < 0) (h2 : ¬ 2 < x) (hn : ¬ x = 2) : ∃ j : Nat, j < 2 ∧ x = nI j := by
  obtain ⟨j, hj, rfl⟩ := i_num h0 (show x ≤ nI 2 from i_le h2) (by decide)
  exact ⟨j, by rcases (show j = 0 ∨ j = 1 ∨ j = 2 by omega) with rfl | rfl | rfl <;> first | omega | exact absurd rfl hn, rfl⟩
theorem in_7 {x : Int32} (h0 : ¬ x < 0) (h2 : x ≤ 7) (hn : ¬ x = 7) : ∃ j : Nat, j < 7 ∧ x = nI j := by
  obtain ⟨j, hj, rfl⟩ := i_num h0 (show x ≤ nI 7 from h2) (by decide)
  refine ⟨j, ?_, rfl⟩
  by_cases h : j = 7
  · exact absurd (by rw [h]; rfl) hn
  · omega
set_option maxHeartbeats 4000000 in
set_option maxRecDepth 100000 in
theorem ct_wish {K : KT} {h : AH} {mo : Nat} {ad : Nat → Nat} {S : MS} {which w : Int32} (hds : mDis mo ad) : Ct K mX4_wish 0 0 [.ref mo, .int which, .int w] (mPut h mo ad S) (fun r h' => r = some (.int (wishM S which w).2) ∧ h' = mPut h mo ad (wishM S which w).1) noX := by
  refine ct_of (by decide +kernel) rfl (Nat.le_of_ble_eq_true rfl) rfl ?_
  refine v_aload_n 0 dX4_wish_0 rfl rfl ?_
  refine v_iload_n 1 dX4_wish_1 rfl rfl ?_
  refine v_if_lt (tgt := 20) 2 dX4_wish_2 (by decide) (fun c2 => ?_) (fun c2 => ?_)
  · refine v_iconst (v := 1) 20 dX4_wish_20 (by decide) ?_
    refine v_goto (tgt := 25) 21 dX4_wish_21 (by decide) ?_
    refine m_put 25 dX4_wish_25 fl_X4_45 ?_
    refine v_aload_n 28 dX4_wish_28 rfl rfl ?_
    refine v_getf 29 dX4_wish_29 fl_X4_45 mPut_o rfl ?_
    refine v_if_le (tgt := 37) 32 dX4_wish_32 (by decide) (fun c32 => absurd c32 (by show ¬ ((1 : Int32) ≤ 0); decide)) (fun c32 => ?_)
    refine v_iconst (v := 0) 35 dX4_wish_35 (by decide) ?_
    refine v_iret 36 dX4_wish_36 rfl rfl ?_
    exact ⟨by simp_all [wishM, mI_n, mI_s, mI_2, mA_1, mA_n, mA_s, -Int32.not_lt, -Int32.not_le], by simp_all [wishM, mI_n, mI_s, mI_2, mA_1, mA_n, mA_s, -Int32.not_lt, -Int32.not_le]⟩
  · refine v_iload_n 5 dX4_wish_5 rfl rfl ?_
    refine v_iconst (v := 2) 6 dX4_wish_6 (by decide) ?_
    refine v_icmp_gt (tgt := 20) 7 dX4_wish_7 (by decide) (fun c7 => ?_) (fun c7 => ?_)
    · refine v_iconst (v := 1) 20 dX4_wish_20 (by decide) ?_
      refine v_goto (tgt := 25) 21 dX4_wish_21 (by decide) ?_
      refine m_put 25 dX4_wish_25 fl_X4_45 ?_
      refine v_aload_n 28 dX4_wish_28 rfl rfl ?_
      refine v_getf 29 dX4_wish_29 fl_X4_45 mPut_o rfl ?_
      refine v_if_le (tgt := 37) 32 dX4_wish_32 (by decide) (fun c32 => absurd c32 (by show ¬ ((1 : Int32) ≤ 0); decide)) (fun c32 => ?_)
      refine v_iconst (v := 0) 35 dX4_wish_35 (by decide) ?_
      refine v_iret 36 dX4_wish_36 rfl rfl ?_
      exact ⟨by simp_all [wishM, mI_n, mI_s, mI_2, mA_1, mA_n, mA_s, -Int32.not_lt, -Int32.not_le], by simp_all [wishM, mI_n, mI_s, mI_2, mA_1, mA_n, mA_s, -Int32.not_lt, -Int32.not_le]⟩
    · refine v_iload_n 10 dX4_wish_10 rfl rfl ?_
      refine v_if_lt (tgt := 20) 11 dX4_wish_11 (by decide) (fun c11 => ?_) (fun c11 => ?_)
      · refine v_iconst (v := 1) 20 dX4_wish_20 (by decide) ?_
        refine v_goto (tgt := 25) 21 dX4_wish_21 (by decide) ?_
        refine m_put 25 dX4_wish_25 fl_X4_45 ?_
        refine v_aload_n 28 dX4_wish_28 rfl rfl ?_
        refine v_getf 29 dX4_wish_29 fl_X4_45 mPut_o rfl ?_
        refine v_if_le (tgt := 37) 32 dX4_wish_32 (by decide) (fun c32 => absurd c32 (by show ¬ ((1 : Int32) ≤ 0); decide)) (fun c32 => ?_)
        refine v_iconst (v := 0) 35 dX4_wish_35 (by decide) ?_
        refine v_iret 36 dX4_wish_36 rfl rfl ?_
        exact ⟨by simp_all [wishM, mI_n, mI_s, mI_2, mA_1, mA_n, mA_s, -Int32.not_lt, -Int32.not_le], by simp_all [wishM, mI_n, mI_s, mI_2, mA_1, mA_n, mA_s, -Int32.not_lt, -Int32.not_le]⟩
      · refine v_iload_n 14 dX4_wish_14 rfl rfl ?_
        refine v_bipush (v := 7) 15 dX4_wish_15 (by decide) ?_
        refine v_icmp_le (tgt := 24) 17 dX4_wish_17 (by decide) (fun c17 => ?_) (fun c17 => ?_)
        · refine v_iconst (v := 0) 24 dX4_wish_24 (by decide) ?_
          refine m_put 25 dX4_wish_25 fl_X4_45 ?_
          refine v_aload_n 28 dX4_wish_28 rfl rfl ?_
          refine v_getf 29 dX4_wish_29 fl_X4_45 mPut_o rfl ?_
          refine v_if_le (tgt := 37) 32 dX4_wish_32 (by decide) (fun c32 => ?_) (fun c32 => absurd (by show ((0 : Int32) ≤ 0); decide) c32)
          refine v_iload_n 37 dX4_wish_37 rfl rfl ?_
          refine v_iconst (v := 2) 38 dX4_wish_38 (by decide) ?_
          refine v_icmp_ne (tgt := 72) 39 dX4_wish_39 (by decide) (fun c39 => ?_) (fun c39 => ?_)
          · refine v_iload_n 72 dX4_wish_72 rfl rfl ?_
            refine v_bipush (v := 7) 73 dX4_wish_73 (by decide) ?_
            refine v_icmp_ne (tgt := 87) 75 dX4_wish_75 (by decide) (fun c75 => ?_) (fun c75 => ?_)
            · refine v_aload_n 87 dX4_wish_87 rfl rfl ?_
              refine v_getf 88 dX4_wish_88 fl_X4_30 mPut_o rfl ?_
              refine v_bipush (v := 7) 91 dX4_wish_91 (by decide) ?_
              refine v_iload_n 93 dX4_wish_93 rfl rfl ?_
              refine v_imul 94 dX4_wish_94 ?_
              refine v_iload_n 95 dX4_wish_95 rfl rfl ?_
              refine v_bipush (v := 7) 96 dX4_wish_96 (by decide) ?_
              refine v_icmp_ge (tgt := 105) 98 dX4_wish_98 (by decide) (fun c98 => absurd c98 (lt_of_le_ne c17 c75)) (fun c98 => ?_)
              refine v_iload_n 101 dX4_wish_101 rfl rfl ?_
              refine v_goto (tgt := 106) 102 dX4_wish_102 (by decide) ?_
              refine v_iadd 106 dX4_wish_106 ?_
              refine m_ild 107 10 dX4_wish_107 hds (by obtain ⟨i, hi, rfl⟩ := in_2 c2 c7 c39; obtain ⟨j, hj, rfl⟩ := in_7 c11 c17 c75; rw [m7, nI_add]; exact vp_in_nI (N := 14) (by omega) (by decide)) ?_
              refine v_iret 108 dX4_wish_108 rfl rfl ?_
              exact ⟨by simp_all [wishM, mI_n, mI_s, mI_2, mA_1, mA_n, mA_s, -Int32.not_lt, -Int32.not_le], by simp_all [wishM, mI_n, mI_s, mI_2, mA_1, mA_n, mA_s, -Int32.not_lt, -Int32.not_le]⟩
            · refine v_aload_n 78 dX4_wish_78 rfl rfl ?_
              refine v_getf 79 dX4_wish_79 fl_X4_33 mPut_o rfl ?_
              refine v_iload_n 82 dX4_wish_82 rfl rfl ?_
              refine m_ild 83 11 dX4_wish_83 hds (by obtain ⟨j, hj, rfl⟩ := in_2 c2 c7 c39; exact vp_in_nI hj (by decide)) ?_
              refine v_goto (tgt := 108) 84 dX4_wish_84 (by decide) ?_
              refine v_iret 108 dX4_wish_108 rfl rfl ?_
              exact ⟨by simp_all [wishM, mI_n, mI_s, mI_2, mA_1, mA_n, mA_s, -Int32.not_lt, -Int32.not_le], by simp_all [wishM, mI_n, mI_s, mI_2, mA_1, mA_n, mA_s, -Int32.not_lt, -Int32.not_le]⟩
          · refine v_iload_n 42 dX4_wish_42 rfl rfl ?_
            refine v_bipush (v := 7) 43 dX4_wish_43 (by decide) ?_
            refine v_icmp_ne (tgt := 55) 45 dX4_wish_45 (by decide) (fun c45 => ?_) (fun c45 => ?_)
            · refine v_aload_n 55 dX4_wish_55 rfl rfl ?_
              refine v_getf 56 dX4_wish_56 fl_X4_27 mPut_o rfl ?_
              refine v_iload_n 59 dX4_wish_59 rfl rfl ?_
              refine v_bipush (v := 7) 60 dX4_wish_60 (by decide) ?_
              refine v_icmp_ge (tgt := 69) 62 dX4_wish_62 (by decide) (fun c62 => absurd c62 (lt_of_le_ne c17 c45)) (fun c62 => ?_)
              refine v_iload_n 65 dX4_wish_65 rfl rfl ?_
              refine v_goto (tgt := 70) 66 dX4_wish_66 (by decide) ?_
              refine m_ild 70 9 dX4_wish_70 hds (by obtain ⟨j, hj, rfl⟩ := in_7 c11 c17 c45; exact vp_in_nI hj (by decide)) ?_
              refine v_iret 71 dX4_wish_71 rfl rfl ?_
              exact ⟨by simp_all [wishM, mI_n, mI_s, mI_2, mA_1, mA_n, mA_s, -Int32.not_lt, -Int32.not_le], by simp_all [wishM, mI_n, mI_s, mI_2, mA_1, mA_n, mA_s, -Int32.not_lt, -Int32.not_le]⟩
            · refine v_aload_n 48 dX4_wish_48 rfl rfl ?_
              refine v_getf 49 dX4_wish_49 fl_X4_55 mPut_o rfl ?_
              refine v_goto (tgt := 71) 52 dX4_wish_52 (by decide) ?_
              refine v_iret 71 dX4_wish_71 rfl rfl ?_
              exact ⟨by simp_all [wishM, mI_n, mI_s, mI_2, mA_1, mA_n, mA_s, -Int32.not_lt, -Int32.not_le], by simp_all [wishM, mI_n, mI_s, mI_2, mA_1, mA_n, mA_s, -Int32.not_lt, -Int32.not_le]⟩
        · refine v_iconst (v := 1) 20 dX4_wish_20 (by decide) ?_
          refine v_goto (tgt := 25) 21 dX4_wish_21 (by decide) ?_
          refine m_put 25 dX4_wish_25 fl_X4_45 ?_
          refine v_aload_n 28 dX4_wish_28 rfl rfl ?_
          refine v_getf 29 dX4_wish_29 fl_X4_45 mPut_o rfl ?_
          refine v_if_le (tgt := 37) 32 dX4_wish_32 (by decide) (fun c32 => absurd c32 (by show ¬ ((1 : Int32) ≤ 0); decide)) (fun c32 => ?_)
          refine v_iconst (v := 0) 35 dX4_wish_35 (by decide) ?_
          refine v_iret 36 dX4_wish_36 rfl rfl ?_
          exact ⟨by simp_all [wishM, mI_n, mI_s, mI_2, mA_1, mA_n, mA_s, -Int32.not_lt, -Int32.not_le], by simp_all [wishM, mI_n, mI_s, mI_2, mA_1, mA_n, mA_s, -Int32.not_lt, -Int32.not_le]⟩

/-- a counter that runs down: j turns are left -/
def kv : Nat → Int32
  | 0 => -1
  | j + 1 => nI j
theorem kv_dec (j : Nat) : nI j + (-1) = kv j := by
  cases j with
  | zero => decide
  | succ i => exact pk_m1 i
theorem kv_sub (j : Nat) : nI j - 1 = kv j := by
  cases j with
  | zero => decide
  | succ i => exact nI_pred i
/-- byte j of a long, the lowest being 0 -/
def bOf (part : Int64) (j : Nat) : Int32 := ((part >>> ((8 * nI j : Int32).toInt64 &&& 63)) &&& 255).toInt32.toInt8.toInt32
def bStep (part : Int64) (S : MS) (j : Nat) : MS := if S.1 16 ≤ S.1 17 then S else mI (mA S 18 (upd (S.2 18) (S.1 17).toNatClampNeg (vp_nar .byte (bOf part j)))) 17 (S.1 17 + 1)
def bRun (part : Int64) : Nat → MS → MS
  | 0, S => S
  | j + 1, S => bRun part j (bStep part S j)
def bInv (S : MS) : Prop := ∃ c N : Nat, S.1 17 = nI c ∧ S.1 16 = nI N ∧ c ≤ N ∧ N ≤ 2048
theorem bInv_step {part : Int64} {S : MS} {j : Nat} (hI : bInv S) : bInv (bStep part S j) := by
  obtain ⟨c, N, h1, h2, h3, h4⟩ := hI
  unfold bStep
  split
  · exact ⟨c, N, h1, h2, h3, h4⟩
  · next hlt =>
    have hcN : c < N := Nat.not_le.mp fun z => hlt (by rw [h1, h2]; exact nI_le z (by omega))
    exact ⟨c + 1, N, by rw [mI_s, h1, nI_1], by rw [mI_n (by decide), mA_1]; exact h2, hcN, h4⟩
theorem bInv_in {S : MS} (hI : bInv S) (hlt : ¬ S.1 16 ≤ S.1 17) : vp_in (S.1 17) 2048 := by
  obtain ⟨c, N, h1, h2, h3, h4⟩ := hI
  have hcN : c < N := Nat.not_le.mp fun z => hlt (by rw [h1, h2]; exact nI_le z (by omega))
  rw [h1]
  exact vp_in_nI (by omega) (by decide)
set_option maxHeartbeats 4000000 in
set_option maxRecDepth 100000 in
theorem lp_bytes {K : KT} {h : AH} {mo : Nat} {ad : Nat → Nat} {part : Int64} {n : Int32} {Q : QR} {X : QX} (hds : mDis mo ad) : ∀ (j : Nat) (S : MS), j ≤ 8 → bInv S → Q (some (.int 1)) (mPut h mo ad (bRun part j S)) → V K mX4_bytes 30 [some (.ref mo), some (.long part), none, some (.int n), some (.int (kv j))] [] (mPut h mo ad S) 0 0 Q X := by
  intro j
  induction j with
  | zero =>
    intro S hj hI hq
    refine v_iload 30 dX4_bytes_30 rfl ?_
    refine v_if_lt (tgt := 84) 32 dX4_bytes_32 (by decide) (fun c32 => ?_) (fun c32 => absurd (by decide) c32)
    refine v_iconst (v := 1) 84 dX4_bytes_84 (by decide) ?_
    refine v_iret 85 dX4_bytes_85 rfl rfl ?_
    exact hq
  | succ j ih =>
    intro S hj hI hq
    refine v_iload 30 dX4_bytes_30 rfl ?_
    refine v_if_lt (tgt := 84) 32 dX4_bytes_32 (by decide) (fun c32 => absurd c32 (nI_pos (by omega))) (fun c32 => ?_)
    refine v_aload_n 35 dX4_bytes_35 rfl rfl ?_
    refine v_getf 36 dX4_bytes_36 fl_X4_95 mPut_o rfl ?_
    refine v_aload_n 39 dX4_bytes_39 rfl rfl ?_
    refine v_getf 40 dX4_bytes_40 fl_X4_92 mPut_o rfl ?_
    refine v_icmp_ge (tgt := 78) 43 dX4_bytes_43 (by decide) (fun c43 => ?_) (fun c43 => ?_)
    · refine v_inc4 (y := -1) 78 dX4_bytes_78 (by decide) ?_
      refine v_goto (tgt := 30) 81 dX4_bytes_81 (by decide) ?_
      refine V.eq (ih (bStep part S j) (by omega) (bInv_step hI) hq) rfl (by rw [← kv_dec j]; rfl) rfl (congrArg (mPut h mo ad) ?_)
      first
        | (rw [show bStep part S j = S from if_pos c43]; done)
        | (rw [show bStep part S j = _ from if_neg c43]; rfl)
    · refine v_aload_n 46 dX4_bytes_46 rfl rfl ?_
      refine v_getf 47 dX4_bytes_47 fl_X4_39 mPut_o rfl ?_
      refine v_aload_n 50 dX4_bytes_50 rfl rfl ?_
      refine v_getf 51 dX4_bytes_51 fl_X4_95 mPut_o rfl ?_
      refine v_lload_n 54 dX4_bytes_54 rfl rfl ?_
      refine v_bipush (v := 8) 55 dX4_bytes_55 (by decide) ?_
      refine v_iload 57 dX4_bytes_57 rfl ?_
      refine v_imul 59 dX4_bytes_59 ?_
      refine v_lshr 60 dX4_bytes_60 rfl ?_
      refine v_ldc2 61 dX4_bytes_61 kc_X4_98 ?_
      refine v_land 64 dX4_bytes_64 ?_
      refine v_l2i 65 dX4_bytes_65 rfl ?_
      refine v_i2b 66 dX4_bytes_66 rfl ?_
      refine m_bst 67 18 dX4_bytes_67 hds (bInv_in hI c43) ?_
      refine v_aload_n 68 dX4_bytes_68 rfl rfl ?_
      refine v_dup 69 dX4_bytes_69 rfl ?_
      refine v_getf 70 dX4_bytes_70 fl_X4_95 mPut_o rfl ?_
      refine v_iconst (v := 1) 73 dX4_bytes_73 (by decide) ?_
      refine v_iadd 74 dX4_bytes_74 ?_
      refine m_put 75 dX4_bytes_75 fl_X4_95 ?_
      refine v_inc4 (y := -1) 78 dX4_bytes_78 (by decide) ?_
      refine v_goto (tgt := 30) 81 dX4_bytes_81 (by decide) ?_
      refine V.eq (ih (bStep part S j) (by omega) (bInv_step hI) hq) rfl (by rw [← kv_dec j]; rfl) rfl (congrArg (mPut h mo ad) ?_)
      first
        | (rw [show bStep part S j = S from if_pos c43]; done)
        | (rw [show bStep part S j = _ from if_neg c43]; rfl)
def bytesR (S : MS) (part : Int64) (n : Int32) (S' : MS) (r : Int32) : Prop :=
  ((n < 1 ∨ 8 < n ∨ S.1 14 = 0) ∧ r = 0 ∧ S' = mI S 0 0) ∨ (∃ j : Nat, 1 ≤ j ∧ j ≤ 8 ∧ n = nI j ∧ ¬ S.1 14 = 0 ∧ r = 1 ∧ S' = bRun part j (mI S 0 0))
set_option maxHeartbeats 4000000 in
set_option maxRecDepth 100000 in
theorem ct_bytes {K : KT} {h : AH} {mo : Nat} {ad : Nat → Nat} {S : MS} {part : Int64} {n : Int32} (hds : mDis mo ad) (hI : bInv S) : Ct K mX4_bytes 0 0 [.ref mo, .long part, .int n] (mPut h mo ad S) (fun r h' => ∃ (b : Int32) (S' : MS), r = some (.int b) ∧ h' = mPut h mo ad S' ∧ bytesR S part n S' b) noX := by
  refine ct_of (by decide +kernel) rfl (Nat.le_of_ble_eq_true rfl) rfl ?_
  refine v_aload_n 0 dX4_bytes_0 rfl rfl ?_
  refine v_iconst (v := 0) 1 dX4_bytes_1 (by decide) ?_
  refine m_put 2 dX4_bytes_2 fl_X4_45 ?_
  refine v_iload_n 5 dX4_bytes_5 rfl rfl ?_
  refine v_iconst (v := 1) 6 dX4_bytes_6 (by decide) ?_
  refine v_icmp_lt (tgt := 23) 7 dX4_bytes_7 (by decide) (fun c7 => ?_) (fun c7 => ?_)
  · refine v_iconst (v := 0) 23 dX4_bytes_23 (by decide) ?_
    refine v_iret 24 dX4_bytes_24 rfl rfl ?_
    exact ⟨_, _, rfl, rfl, Or.inl ⟨by first | exact Or.inl c7 | exact Or.inr (Or.inl c13) | exact Or.inr (Or.inr (by simpa [mI_n] using c20)), rfl, rfl⟩⟩
  · refine v_iload_n 10 dX4_bytes_10 rfl rfl ?_
    refine v_bipush (v := 8) 11 dX4_bytes_11 (by decide) ?_
    refine v_icmp_gt (tgt := 23) 13 dX4_bytes_13 (by decide) (fun c13 => ?_) (fun c13 => ?_)
    · refine v_iconst (v := 0) 23 dX4_bytes_23 (by decide) ?_
      refine v_iret 24 dX4_bytes_24 rfl rfl ?_
      exact ⟨_, _, rfl, rfl, Or.inl ⟨by first | exact Or.inl c7 | exact Or.inr (Or.inl c13) | exact Or.inr (Or.inr (by simpa [mI_n] using c20)), rfl, rfl⟩⟩
    · refine v_aload_n 16 dX4_bytes_16 rfl rfl ?_
      refine v_getf 17 dX4_bytes_17 fl_X4_58 mPut_o rfl ?_
      refine v_if_ne (tgt := 25) 20 dX4_bytes_20 (by decide) (fun c20 => ?_) (fun c20 => ?_)
      · obtain ⟨j, hj, rfl⟩ : ∃ j : Nat, (1 ≤ j ∧ j ≤ 8) ∧ n = nI j := by
          have h0 : ¬ n < 0 := fun z => c7 (Int32.lt_trans z (by decide))
          obtain ⟨j, hj, rfl⟩ := i_num h0 (show n ≤ nI 8 from i_le c13) (by decide)
          refine ⟨j, ⟨?_, hj⟩, rfl⟩
          by_cases z : j = 0
          · subst z; exact absurd (by decide) c7
          · omega
        refine v_iload_n 25 dX4_bytes_25 rfl rfl ?_
        refine v_iconst (v := 1) 26 dX4_bytes_26 (by decide) ?_
        refine v_isub 27 dX4_bytes_27 ?_
        refine v_ist4 28 dX4_bytes_28 ?_
        refine V.eq (lp_bytes (part := part) (n := nI j) hds j (mI S 0 0) hj.2 hI ?_) rfl (by rw [kv_sub]; rfl) rfl rfl
        exact ⟨_, _, rfl, rfl, Or.inr ⟨j, hj.1, hj.2, rfl, by simpa [mI_n] using c20, rfl, rfl⟩⟩
      · refine v_iconst (v := 0) 23 dX4_bytes_23 (by decide) ?_
        refine v_iret 24 dX4_bytes_24 rfl rfl ?_
        exact ⟨_, _, rfl, rfl, Or.inl ⟨by first | exact Or.inl c7 | exact Or.inr (Or.inl c13) | exact Or.inr (Or.inr (by simpa [mI_n] using c20)), rfl, rfl⟩⟩
/-- byte k of the glyph that comes, under the mask of its place -/
def byM (S : MS) (k : Nat) : Int32 :=
  if S.1 17 ≤ nI k then 0 else S.2 18 k &&& (if S.2 15 2 - 8 * (nI k - nI k / (if (S.2 15 2 + 7) / 8 = 0 then 1 else (S.2 15 2 + 7) / 8) * (if (S.2 15 2 + 7) / 8 = 0 then 1 else (S.2 15 2 + 7) / 8)) < 8 then (255 : Int32) - ((255 : Int32) >>> ((S.2 15 2 - 8 * (nI k - nI k / (if (S.2 15 2 + 7) / 8 = 0 then 1 else (S.2 15 2 + 7) / 8) * (if (S.2 15 2 + 7) / 8 = 0 then 1 else (S.2 15 2 + 7) / 8))) &&& 31)) else (255 : Int32))
set_option maxHeartbeats 4000000 in
set_option maxRecDepth 100000 in
theorem ct_byteOf {K : KT} {h : AH} {mo : Nat} {ad : Nat → Nat} {S : MS} {k : Nat} (hds : mDis mo ad) (hk : k < 2048) : Ct K mX4_byteOf 0 0 [.ref mo, .int (nI k)] (mPut h mo ad S) (fun r h' => r = some (.int (byM S k)) ∧ h' = mPut h mo ad S) noX := by
  refine ct_of (by decide +kernel) rfl (Nat.le_of_ble_eq_true rfl) rfl ?_
  refine v_aload_n 0 dX4_byteOf_0 rfl rfl ?_
  refine v_getf 1 dX4_byteOf_1 fl_X4_36 mPut_o rfl ?_
  refine v_iconst (v := 2) 4 dX4_byteOf_4 (by decide) ?_
  refine m_ild 5 15 dX4_byteOf_5 hds (by unfold vp_in; decide) ?_
  refine v_bipush (v := 7) 6 dX4_byteOf_6 (by decide) ?_
  refine v_iadd 8 dX4_byteOf_8 ?_
  refine v_bipush (v := 8) 9 dX4_byteOf_9 (by decide) ?_
  refine v_idiv 11 dX4_byteOf_11 (by decide) ?_
  refine v_ist2 12 dX4_byteOf_12 ?_
  refine v_aload_n 13 dX4_byteOf_13 rfl rfl ?_
  refine v_getf 14 dX4_byteOf_14 fl_X4_36 mPut_o rfl ?_
  refine v_iconst (v := 2) 17 dX4_byteOf_17 (by decide) ?_
  refine m_ild 18 15 dX4_byteOf_18 hds (by unfold vp_in; decide) ?_
  refine v_bipush (v := 8) 19 dX4_byteOf_19 (by decide) ?_
  refine v_iload_n 21 dX4_byteOf_21 rfl rfl ?_
  refine v_iload_n 22 dX4_byteOf_22 rfl rfl ?_
  refine v_if_ne (tgt := 30) 23 dX4_byteOf_23 (by decide) (fun c23 => ?_) (fun c23 => ?_)
  · refine v_iload_n 30 dX4_byteOf_30 rfl rfl ?_
    refine v_irem 31 dX4_byteOf_31 c23 ?_
    refine v_imul 32 dX4_byteOf_32 ?_
    refine v_isub 33 dX4_byteOf_33 ?_
    refine v_ist3 34 dX4_byteOf_34 ?_
    refine v_iload_n 35 dX4_byteOf_35 rfl rfl ?_
    refine v_bipush (v := 8) 36 dX4_byteOf_36 (by decide) ?_
    refine v_icmp_lt (tgt := 47) 38 dX4_byteOf_38 (by decide) (fun c38 => ?_) (fun c38 => ?_)
    · refine v_sipush (v := 255) 47 dX4_byteOf_47 (by decide) ?_
      refine v_sipush (v := 255) 50 dX4_byteOf_50 (by decide) ?_
      refine v_iload_n 53 dX4_byteOf_53 rfl rfl ?_
      refine v_ishr 54 dX4_byteOf_54 ?_
      refine v_isub 55 dX4_byteOf_55 ?_
      refine v_ist4 56 dX4_byteOf_56 ?_
      refine v_iload_n 58 dX4_byteOf_58 rfl rfl ?_
      refine v_aload_n 59 dX4_byteOf_59 rfl rfl ?_
      refine v_getf 60 dX4_byteOf_60 fl_X4_95 mPut_o rfl ?_
      refine v_icmp_ge (tgt := 78) 63 dX4_byteOf_63 (by decide) (fun c63 => ?_) (fun c63 => ?_)
      · refine v_iconst (v := 0) 78 dX4_byteOf_78 (by decide) ?_
        refine v_iret 79 dX4_byteOf_79 rfl rfl ?_
        have ek : (nI k).toNatClampNeg = k := nI_clamp (by omega)
        have e2 : (2 : Int32).toNatClampNeg = 2 := by decide
        refine ⟨?_, rfl⟩
        simp only [e2] at *
        simp_all [byM, -Int32.not_lt, -Int32.not_le]
      · refine v_aload_n 66 dX4_byteOf_66 rfl rfl ?_
        refine v_getf 67 dX4_byteOf_67 fl_X4_39 mPut_o rfl ?_
        refine v_iload_n 70 dX4_byteOf_70 rfl rfl ?_
        refine m_bld 71 18 dX4_byteOf_71 hds (vp_in_nI (N := 2048) hk (by decide)) ?_
        refine v_iload 72 dX4_byteOf_72 rfl ?_
        refine v_iand 74 dX4_byteOf_74 ?_
        refine v_goto (tgt := 79) 75 dX4_byteOf_75 (by decide) ?_
        refine v_iret 79 dX4_byteOf_79 rfl rfl ?_
        have ek : (nI k).toNatClampNeg = k := nI_clamp (by omega)
        have e2 : (2 : Int32).toNatClampNeg = 2 := by decide
        refine ⟨?_, rfl⟩
        simp only [e2] at *
        simp_all [byM, -Int32.not_lt, -Int32.not_le]
    · refine v_sipush (v := 255) 41 dX4_byteOf_41 (by decide) ?_
      refine v_goto (tgt := 56) 44 dX4_byteOf_44 (by decide) ?_
      refine v_ist4 56 dX4_byteOf_56 ?_
      refine v_iload_n 58 dX4_byteOf_58 rfl rfl ?_
      refine v_aload_n 59 dX4_byteOf_59 rfl rfl ?_
      refine v_getf 60 dX4_byteOf_60 fl_X4_95 mPut_o rfl ?_
      refine v_icmp_ge (tgt := 78) 63 dX4_byteOf_63 (by decide) (fun c63 => ?_) (fun c63 => ?_)
      · refine v_iconst (v := 0) 78 dX4_byteOf_78 (by decide) ?_
        refine v_iret 79 dX4_byteOf_79 rfl rfl ?_
        have ek : (nI k).toNatClampNeg = k := nI_clamp (by omega)
        have e2 : (2 : Int32).toNatClampNeg = 2 := by decide
        refine ⟨?_, rfl⟩
        simp only [e2] at *
        simp_all [byM, -Int32.not_lt, -Int32.not_le]
      · refine v_aload_n 66 dX4_byteOf_66 rfl rfl ?_
        refine v_getf 67 dX4_byteOf_67 fl_X4_39 mPut_o rfl ?_
        refine v_iload_n 70 dX4_byteOf_70 rfl rfl ?_
        refine m_bld 71 18 dX4_byteOf_71 hds (vp_in_nI (N := 2048) hk (by decide)) ?_
        refine v_iload 72 dX4_byteOf_72 rfl ?_
        refine v_iand 74 dX4_byteOf_74 ?_
        refine v_goto (tgt := 79) 75 dX4_byteOf_75 (by decide) ?_
        refine v_iret 79 dX4_byteOf_79 rfl rfl ?_
        have ek : (nI k).toNatClampNeg = k := nI_clamp (by omega)
        have e2 : (2 : Int32).toNatClampNeg = 2 := by decide
        refine ⟨?_, rfl⟩
        simp only [e2] at *
        simp_all [byM, -Int32.not_lt, -Int32.not_le]
  · refine v_iconst (v := 1) 26 dX4_byteOf_26 (by decide) ?_
    refine v_goto (tgt := 31) 27 dX4_byteOf_27 (by decide) ?_
    refine v_irem 31 dX4_byteOf_31 (by decide) ?_
    refine v_imul 32 dX4_byteOf_32 ?_
    refine v_isub 33 dX4_byteOf_33 ?_
    refine v_ist3 34 dX4_byteOf_34 ?_
    refine v_iload_n 35 dX4_byteOf_35 rfl rfl ?_
    refine v_bipush (v := 8) 36 dX4_byteOf_36 (by decide) ?_
    refine v_icmp_lt (tgt := 47) 38 dX4_byteOf_38 (by decide) (fun c38 => ?_) (fun c38 => ?_)
    · refine v_sipush (v := 255) 47 dX4_byteOf_47 (by decide) ?_
      refine v_sipush (v := 255) 50 dX4_byteOf_50 (by decide) ?_
      refine v_iload_n 53 dX4_byteOf_53 rfl rfl ?_
      refine v_ishr 54 dX4_byteOf_54 ?_
      refine v_isub 55 dX4_byteOf_55 ?_
      refine v_ist4 56 dX4_byteOf_56 ?_
      refine v_iload_n 58 dX4_byteOf_58 rfl rfl ?_
      refine v_aload_n 59 dX4_byteOf_59 rfl rfl ?_
      refine v_getf 60 dX4_byteOf_60 fl_X4_95 mPut_o rfl ?_
      refine v_icmp_ge (tgt := 78) 63 dX4_byteOf_63 (by decide) (fun c63 => ?_) (fun c63 => ?_)
      · refine v_iconst (v := 0) 78 dX4_byteOf_78 (by decide) ?_
        refine v_iret 79 dX4_byteOf_79 rfl rfl ?_
        have ek : (nI k).toNatClampNeg = k := nI_clamp (by omega)
        have e2 : (2 : Int32).toNatClampNeg = 2 := by decide
        refine ⟨?_, rfl⟩
        simp only [e2] at *
        simp_all [byM, -Int32.not_lt, -Int32.not_le]
      · refine v_aload_n 66 dX4_byteOf_66 rfl rfl ?_
        refine v_getf 67 dX4_byteOf_67 fl_X4_39 mPut_o rfl ?_
        refine v_iload_n 70 dX4_byteOf_70 rfl rfl ?_
        refine m_bld 71 18 dX4_byteOf_71 hds (vp_in_nI (N := 2048) hk (by decide)) ?_
        refine v_iload 72 dX4_byteOf_72 rfl ?_
        refine v_iand 74 dX4_byteOf_74 ?_
        refine v_goto (tgt := 79) 75 dX4_byteOf_75 (by decide) ?_
        refine v_iret 79 dX4_byteOf_79 rfl rfl ?_
        have ek : (nI k).toNatClampNeg = k := nI_clamp (by omega)
        have e2 : (2 : Int32).toNatClampNeg = 2 := by decide
        refine ⟨?_, rfl⟩
        simp only [e2] at *
        simp_all [byM, -Int32.not_lt, -Int32.not_le]
    · refine v_sipush (v := 255) 41 dX4_byteOf_41 (by decide) ?_
      refine v_goto (tgt := 56) 44 dX4_byteOf_44 (by decide) ?_
      refine v_ist4 56 dX4_byteOf_56 ?_
      refine v_iload_n 58 dX4_byteOf_58 rfl rfl ?_
      refine v_aload_n 59 dX4_byteOf_59 rfl rfl ?_
      refine v_getf 60 dX4_byteOf_60 fl_X4_95 mPut_o rfl ?_
      refine v_icmp_ge (tgt := 78) 63 dX4_byteOf_63 (by decide) (fun c63 => ?_) (fun c63 => ?_)
      · refine v_iconst (v := 0) 78 dX4_byteOf_78 (by decide) ?_
        refine v_iret 79 dX4_byteOf_79 rfl rfl ?_
        have ek : (nI k).toNatClampNeg = k := nI_clamp (by omega)
        have e2 : (2 : Int32).toNatClampNeg = 2 := by decide
        refine ⟨?_, rfl⟩
        simp only [e2] at *
        simp_all [byM, -Int32.not_lt, -Int32.not_le]
      · refine v_aload_n 66 dX4_byteOf_66 rfl rfl ?_
        refine v_getf 67 dX4_byteOf_67 fl_X4_39 mPut_o rfl ?_
        refine v_iload_n 70 dX4_byteOf_70 rfl rfl ?_
        refine m_bld 71 18 dX4_byteOf_71 hds (vp_in_nI (N := 2048) hk (by decide)) ?_
        refine v_iload 72 dX4_byteOf_72 rfl ?_
        refine v_iand 74 dX4_byteOf_74 ?_
        refine v_goto (tgt := 79) 75 dX4_byteOf_75 (by decide) ?_
        refine v_iret 79 dX4_byteOf_79 rfl rfl ?_
        have ek : (nI k).toNatClampNeg = k := nI_clamp (by omega)
        have e2 : (2 : Int32).toNatClampNeg = 2 := by decide
        refine ⟨?_, rfl⟩
        simp only [e2] at *
        simp_all [byM, -Int32.not_lt, -Int32.not_le]

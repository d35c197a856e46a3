def pitL (l : Nat → Bool) (S : MS) (F : Nat) (wi : Int32) : Nat → Bool :=
  if enI l (at7 S 1) 1 1 1 F = 1 then l else skL l (at7 S 2) (if wi ≤ enI l (at7 S 2) wi 57600 1 F then enI l (at7 S 2) wi 57600 1 F else enI l (at7 S 2) 1 wi 0 F) F
def heiV (l : Nat → Bool) (S : MS) (F : Nat) (wi : Int32) : Int32 :=
  if ¬ enI l (at7 S 3) wi 99999 1 F < wi ∧ (enI l (at7 S 3) 1 wi 0 F < 1 ∨ ¬ wi - enI l (at7 S 3) 1 wi 0 F < enI l (at7 S 3) wi 99999 1 F - wi) then enI l (at7 S 3) wi 99999 1 F else enI l (at7 S 3) 1 wi 0 F
def heiL (l : Nat → Bool) (S : MS) (F : Nat) (wi : Int32) : Nat → Bool := skL l (at7 S 3) (heiV l S F wi) F
def weiV (l : Nat → Bool) (S : MS) (F : Nat) (wi : Int32) : Int32 :=
  if wi < 0 then (if enI l (at7 S 5) (-7) (wi - 1) 0 F = -8 then enI l (at7 S 5) (-7) 7 1 F else enI l (at7 S 5) (-7) (wi - 1) 0 F)
  else (if enI l (at7 S 5) (wi + 1) 7 1 F = wi then enI l (at7 S 5) (-7) 7 0 F else enI l (at7 S 5) (wi + 1) 7 1 F)
def weiL (l : Nat → Bool) (S : MS) (F : Nat) (wi : Int32) : Nat → Bool :=
  if anyI l (at7 S 5) wi F = true then skL l (at7 S 5) wi F else skL (skL l (at7 S 5) wi F) (at7 S 5) (weiV (skL l (at7 S 5) wi F) S F wi) F
theorem ct_stk {K : KT} {h : AH} {mo : Nat} {ad : Nat → Nat} {S : MS} {f : Nat → Int32} {l : Nat → Bool} {w F : Nat} {x : Int32} (hds : mDis mo ad) (hF : S.1 1 = nI F) (hF2 : F ≤ 32) (hw : w < 7) (hl : lRep (mA S 19 f) l F) : Ct K mX4_strike 0 0 [.ref mo, .int (nI w), .int x] (mPut h mo ad (mA S 19 f)) (fun r h' => ∃ g, r = some (.int (bI (anyI l (at7 S w) x F))) ∧ h' = mPut h mo ad (mA S 19 g) ∧ lRep (mA S 19 g) (skL l (at7 S w) x F) F) noX := by
  refine (ct_strike (S := mA S 19 f) hds hF hF2 hw hl).mono ?_ (fun _ _ z => z)
  rintro r h' ⟨g, rfl, rfl, hg⟩
  rw [mA_mA] at hg ⊢
  exact ⟨g, rfl, rfl, hg⟩
theorem ct_en {K : KT} {h : AH} {mo : Nat} {ad : Nat → Nat} {S : MS} {f : Nat → Int32} {l : Nat → Bool} {w F : Nat} {lo hi le : Int32} (hds : mDis mo ad) (hF : S.1 1 = nI F) (hF2 : F ≤ 32) (hw : w < 7) (hl : lRep (mA S 19 f) l F) : Ct K mX4_end 0 0 [.ref mo, .int (nI w), .int lo, .int hi, .int le] (mPut h mo ad (mA S 19 f)) (fun r h' => r = some (.int (enI l (at7 S w) lo hi le F)) ∧ h' = mPut h mo ad (mA S 19 f)) noX :=
  ct_end (S := mA S 19 f) hds hF hF2 hw hl
set_option maxHeartbeats 4000000 in
set_option maxRecDepth 100000 in
theorem ct_byPitch {K : KT} {h : AH} {mo : Nat} {ad : Nat → Nat} {S : MS} {f : Nat → Int32} {l : Nat → Bool} {F : Nat} {wi : Int32} (hds : mDis mo ad) (hF : S.1 1 = nI F) (hF2 : F ≤ 32) (hl : lRep (mA S 19 f) l F) : Ct K mX4_byPitch 0 0 [.ref mo, .int wi] (mPut h mo ad (mA S 19 f)) (fun r h' => r = none ∧ ∃ g, h' = mPut h mo ad (mA S 19 g) ∧ lRep (mA S 19 g) (pitL l S F wi) F) noX := by
  refine ct_of (by decide +kernel) rfl (Nat.le_of_ble_eq_true rfl) rfl ?_
  refine v_aload_n 0 dX4_byPitch_0 rfl rfl ?_
  refine v_iconst (v := 1) 1 dX4_byPitch_1 (by decide) ?_
  refine v_iconst (v := 1) 2 dX4_byPitch_2 (by decide) ?_
  refine v_iconst (v := 1) 3 dX4_byPitch_3 (by decide) ?_
  refine v_iconst (v := 1) 4 dX4_byPitch_4 (by decide) ?_
  refine m_call 5 [.int (nI 1), .int (1), .int (1), .int 1] dX4_byPitch_5 cv_X4_110 (ct_en (w := 1) hds hF hF2 (by decide) hl) (fun r h' hq' => ?_)
  obtain ⟨rfl, rfl⟩ := hq'
  refine v_iconst (v := 1) 8 dX4_byPitch_8 (by decide) ?_
  refine v_icmp_ne (tgt := 13) 9 dX4_byPitch_9 (by decide) (fun c9 => ?_) (fun c9 => ?_)
  · refine v_aload_n 13 dX4_byPitch_13 rfl rfl ?_
    refine v_iconst (v := 2) 14 dX4_byPitch_14 (by decide) ?_
    refine v_iload_n 15 dX4_byPitch_15 rfl rfl ?_
    refine v_ldc 16 dX4_byPitch_16 kc_X4_49 ?_
    refine v_iconst (v := 1) 18 dX4_byPitch_18 (by decide) ?_
    refine m_call 19 [.int (nI 2), .int (wi), .int (57600), .int 1] dX4_byPitch_19 cv_X4_110 (ct_en (w := 2) hds hF hF2 (by decide) hl) (fun r h' hq' => ?_)
    obtain ⟨rfl, rfl⟩ := hq'
    refine v_ist2 22 dX4_byPitch_22 ?_
    refine v_aload_n 23 dX4_byPitch_23 rfl rfl ?_
    refine v_iconst (v := 2) 24 dX4_byPitch_24 (by decide) ?_
    refine v_iload_n 25 dX4_byPitch_25 rfl rfl ?_
    refine v_iload_n 26 dX4_byPitch_26 rfl rfl ?_
    refine v_icmp_ge (tgt := 41) 27 dX4_byPitch_27 (by decide) (fun c27 => ?_) (fun c27 => ?_)
    · refine v_iload_n 41 dX4_byPitch_41 rfl rfl ?_
      refine m_call 42 [.int (nI 2), .int _] dX4_byPitch_42 cv_X4_114 (ct_stk (w := 2) hds hF hF2 (by decide) hl) (fun r h' hq' => ?_)
      obtain ⟨g, rfl, rfl, hg⟩ := hq'
      refine v_ist3 45 dX4_byPitch_45 ?_
      refine v_vret 46 dX4_byPitch_46 rfl ?_
      refine ⟨rfl, g, rfl, ?_⟩
      rw [pitL, if_neg c9]
      first
        | (rw [if_pos c27]; exact hg)
        | (rw [if_neg c27]; exact hg)
    · refine v_aload_n 30 dX4_byPitch_30 rfl rfl ?_
      refine v_iconst (v := 2) 31 dX4_byPitch_31 (by decide) ?_
      refine v_iconst (v := 1) 32 dX4_byPitch_32 (by decide) ?_
      refine v_iload_n 33 dX4_byPitch_33 rfl rfl ?_
      refine v_iconst (v := 0) 34 dX4_byPitch_34 (by decide) ?_
      refine m_call 35 [.int (nI 2), .int (1), .int (wi), .int 0] dX4_byPitch_35 cv_X4_110 (ct_en (w := 2) hds hF hF2 (by decide) hl) (fun r h' hq' => ?_)
      obtain ⟨rfl, rfl⟩ := hq'
      refine v_goto (tgt := 42) 38 dX4_byPitch_38 (by decide) ?_
      refine m_call 42 [.int (nI 2), .int _] dX4_byPitch_42 cv_X4_114 (ct_stk (w := 2) hds hF hF2 (by decide) hl) (fun r h' hq' => ?_)
      obtain ⟨g, rfl, rfl, hg⟩ := hq'
      refine v_ist3 45 dX4_byPitch_45 ?_
      refine v_vret 46 dX4_byPitch_46 rfl ?_
      refine ⟨rfl, g, rfl, ?_⟩
      rw [pitL, if_neg c9]
      first
        | (rw [if_pos c27]; exact hg)
        | (rw [if_neg c27]; exact hg)
  · refine v_vret 12 dX4_byPitch_12 rfl ?_
    refine ⟨rfl, f, rfl, ?_⟩
    rw [pitL, if_pos c9]
    exact hl
set_option maxHeartbeats 4000000 in
set_option maxRecDepth 100000 in
theorem ct_byHeight {K : KT} {h : AH} {mo : Nat} {ad : Nat → Nat} {S : MS} {f : Nat → Int32} {l : Nat → Bool} {F : Nat} {wi : Int32} (hds : mDis mo ad) (hF : S.1 1 = nI F) (hF2 : F ≤ 32) (hl : lRep (mA S 19 f) l F) : Ct K mX4_byHeight 0 0 [.ref mo, .int wi] (mPut h mo ad (mA S 19 f)) (fun r h' => r = none ∧ ∃ g, h' = mPut h mo ad (mA S 19 g) ∧ lRep (mA S 19 g) (heiL l S F wi) F) noX := by
  refine ct_of (by decide +kernel) rfl (Nat.le_of_ble_eq_true rfl) rfl ?_
  refine v_aload_n 0 dX4_byHeight_0 rfl rfl ?_
  refine v_iconst (v := 3) 1 dX4_byHeight_1 (by decide) ?_
  refine v_iload_n 2 dX4_byHeight_2 rfl rfl ?_
  refine v_ldc 3 dX4_byHeight_3 kc_X4_50 ?_
  refine v_iconst (v := 1) 5 dX4_byHeight_5 (by decide) ?_
  refine m_call 6 [.int (nI 3), .int (wi), .int (99999), .int 1] dX4_byHeight_6 cv_X4_110 (ct_en (w := 3) hds hF hF2 (by decide) hl) (fun r h' hq' => ?_)
  obtain ⟨rfl, rfl⟩ := hq'
  refine v_ist2 9 dX4_byHeight_9 ?_
  refine v_aload_n 10 dX4_byHeight_10 rfl rfl ?_
  refine v_iconst (v := 3) 11 dX4_byHeight_11 (by decide) ?_
  refine v_iconst (v := 1) 12 dX4_byHeight_12 (by decide) ?_
  refine v_iload_n 13 dX4_byHeight_13 rfl rfl ?_
  refine v_iconst (v := 0) 14 dX4_byHeight_14 (by decide) ?_
  refine m_call 15 [.int (nI 3), .int (1), .int (wi), .int 0] dX4_byHeight_15 cv_X4_110 (ct_en (w := 3) hds hF hF2 (by decide) hl) (fun r h' hq' => ?_)
  obtain ⟨rfl, rfl⟩ := hq'
  refine v_ist3 18 dX4_byHeight_18 ?_
  refine v_iload_n 19 dX4_byHeight_19 rfl rfl ?_
  refine v_iload_n 20 dX4_byHeight_20 rfl rfl ?_
  refine v_icmp_lt (tgt := 42) 21 dX4_byHeight_21 (by decide) (fun c21 => ?_) (fun c21 => ?_)
  · refine v_iconst (v := 0) 42 dX4_byHeight_42 (by decide) ?_
    refine v_ist4 43 dX4_byHeight_43 ?_
    refine v_aload_n 45 dX4_byHeight_45 rfl rfl ?_
    refine v_iconst (v := 3) 46 dX4_byHeight_46 (by decide) ?_
    refine v_iload 47 dX4_byHeight_47 rfl ?_
    refine v_if_eq (tgt := 56) 49 dX4_byHeight_49 (by decide) (fun c49 => ?_) (fun c49 => absurd (rfl) c49)
    refine v_iload_n 56 dX4_byHeight_56 rfl rfl ?_
    refine m_call 57 [.int (nI 3), .int _] dX4_byHeight_57 cv_X4_114 (ct_stk (w := 3) hds hF hF2 (by decide) hl) (fun r h' hq' => ?_)
    obtain ⟨g, rfl, rfl, hg⟩ := hq'
    refine v_ist5 60 dX4_byHeight_60 ?_
    refine v_vret 62 dX4_byHeight_62 rfl ?_
    refine ⟨rfl, g, rfl, ?_⟩
    rw [heiL, heiV, if_neg (fun q => q.1 c21)]
    exact hg
  · refine v_iload_n 24 dX4_byHeight_24 rfl rfl ?_
    refine v_iconst (v := 1) 25 dX4_byHeight_25 (by decide) ?_
    refine v_icmp_lt (tgt := 38) 26 dX4_byHeight_26 (by decide) (fun c26 => ?_) (fun c26 => ?_)
    · refine v_iconst (v := 1) 38 dX4_byHeight_38 (by decide) ?_
      refine v_goto (tgt := 43) 39 dX4_byHeight_39 (by decide) ?_
      refine v_ist4 43 dX4_byHeight_43 ?_
      refine v_aload_n 45 dX4_byHeight_45 rfl rfl ?_
      refine v_iconst (v := 3) 46 dX4_byHeight_46 (by decide) ?_
      refine v_iload 47 dX4_byHeight_47 rfl ?_
      refine v_if_eq (tgt := 56) 49 dX4_byHeight_49 (by decide) (fun c49 => absurd c49 (by decide)) (fun c49 => ?_)
      refine v_iload_n 52 dX4_byHeight_52 rfl rfl ?_
      refine v_goto (tgt := 57) 53 dX4_byHeight_53 (by decide) ?_
      refine m_call 57 [.int (nI 3), .int _] dX4_byHeight_57 cv_X4_114 (ct_stk (w := 3) hds hF hF2 (by decide) hl) (fun r h' hq' => ?_)
      obtain ⟨g, rfl, rfl, hg⟩ := hq'
      refine v_ist5 60 dX4_byHeight_60 ?_
      refine v_vret 62 dX4_byHeight_62 rfl ?_
      refine ⟨rfl, g, rfl, ?_⟩
      rw [heiL, heiV, if_pos ⟨c21, Or.inl c26⟩]
      exact hg
    · refine v_iload_n 29 dX4_byHeight_29 rfl rfl ?_
      refine v_iload_n 30 dX4_byHeight_30 rfl rfl ?_
      refine v_isub 31 dX4_byHeight_31 ?_
      refine v_iload_n 32 dX4_byHeight_32 rfl rfl ?_
      refine v_iload_n 33 dX4_byHeight_33 rfl rfl ?_
      refine v_isub 34 dX4_byHeight_34 ?_
      refine v_icmp_gt (tgt := 42) 35 dX4_byHeight_35 (by decide) (fun c35 => ?_) (fun c35 => ?_)
      · refine v_iconst (v := 0) 42 dX4_byHeight_42 (by decide) ?_
        refine v_ist4 43 dX4_byHeight_43 ?_
        refine v_aload_n 45 dX4_byHeight_45 rfl rfl ?_
        refine v_iconst (v := 3) 46 dX4_byHeight_46 (by decide) ?_
        refine v_iload 47 dX4_byHeight_47 rfl ?_
        refine v_if_eq (tgt := 56) 49 dX4_byHeight_49 (by decide) (fun c49 => ?_) (fun c49 => absurd (rfl) c49)
        refine v_iload_n 56 dX4_byHeight_56 rfl rfl ?_
        refine m_call 57 [.int (nI 3), .int _] dX4_byHeight_57 cv_X4_114 (ct_stk (w := 3) hds hF hF2 (by decide) hl) (fun r h' hq' => ?_)
        obtain ⟨g, rfl, rfl, hg⟩ := hq'
        refine v_ist5 60 dX4_byHeight_60 ?_
        refine v_vret 62 dX4_byHeight_62 rfl ?_
        refine ⟨rfl, g, rfl, ?_⟩
        rw [heiL, heiV, if_neg (fun q => q.2.elim c26 (fun z => z c35))]
        exact hg
      · refine v_iconst (v := 1) 38 dX4_byHeight_38 (by decide) ?_
        refine v_goto (tgt := 43) 39 dX4_byHeight_39 (by decide) ?_
        refine v_ist4 43 dX4_byHeight_43 ?_
        refine v_aload_n 45 dX4_byHeight_45 rfl rfl ?_
        refine v_iconst (v := 3) 46 dX4_byHeight_46 (by decide) ?_
        refine v_iload 47 dX4_byHeight_47 rfl ?_
        refine v_if_eq (tgt := 56) 49 dX4_byHeight_49 (by decide) (fun c49 => absurd c49 (by decide)) (fun c49 => ?_)
        refine v_iload_n 52 dX4_byHeight_52 rfl rfl ?_
        refine v_goto (tgt := 57) 53 dX4_byHeight_53 (by decide) ?_
        refine m_call 57 [.int (nI 3), .int _] dX4_byHeight_57 cv_X4_114 (ct_stk (w := 3) hds hF hF2 (by decide) hl) (fun r h' hq' => ?_)
        obtain ⟨g, rfl, rfl, hg⟩ := hq'
        refine v_ist5 60 dX4_byHeight_60 ?_
        refine v_vret 62 dX4_byHeight_62 rfl ?_
        refine ⟨rfl, g, rfl, ?_⟩
        rw [heiL, heiV, if_pos ⟨c21, Or.inr c35⟩]
        exact hg
set_option maxHeartbeats 4000000 in
set_option maxRecDepth 100000 in
theorem ct_byWeight {K : KT} {h : AH} {mo : Nat} {ad : Nat → Nat} {S : MS} {f : Nat → Int32} {l : Nat → Bool} {F : Nat} {wi : Int32} (hds : mDis mo ad) (hF : S.1 1 = nI F) (hF2 : F ≤ 32) (hl : lRep (mA S 19 f) l F) : Ct K mX4_byWeight 0 0 [.ref mo, .int wi] (mPut h mo ad (mA S 19 f)) (fun r h' => r = none ∧ ∃ g, h' = mPut h mo ad (mA S 19 g) ∧ lRep (mA S 19 g) (weiL l S F wi) F) noX := by
  refine ct_of (by decide +kernel) rfl (Nat.le_of_ble_eq_true rfl) rfl ?_
  refine v_aload_n 0 dX4_byWeight_0 rfl rfl ?_
  refine v_iconst (v := 5) 1 dX4_byWeight_1 (by decide) ?_
  refine v_iload_n 2 dX4_byWeight_2 rfl rfl ?_
  refine m_call 3 [.int (nI 5), .int _] dX4_byWeight_3 cv_X4_114 (ct_stk (w := 5) hds hF hF2 (by decide) hl) (fun r h' hq' => ?_)
  obtain ⟨g, rfl, rfl, hg⟩ := hq'
  refine v_if_eq (tgt := 10) 6 dX4_byWeight_6 (by decide) (fun c6 => ?_) (fun c6 => ?_)
  · refine v_iload_n 10 dX4_byWeight_10 rfl rfl ?_
    refine v_if_lt (tgt := 28) 11 dX4_byWeight_11 (by decide) (fun c11 => ?_) (fun c11 => ?_)
    · refine v_aload_n 28 dX4_byWeight_28 rfl rfl ?_
      refine v_iconst (v := 5) 29 dX4_byWeight_29 (by decide) ?_
      refine v_bipush (v := -7) 30 dX4_byWeight_30 (by decide) ?_
      refine v_iload_n 32 dX4_byWeight_32 rfl rfl ?_
      refine v_iconst (v := 1) 33 dX4_byWeight_33 (by decide) ?_
      refine v_isub 34 dX4_byWeight_34 ?_
      refine v_iconst (v := 0) 35 dX4_byWeight_35 (by decide) ?_
      refine m_call 36 [.int (nI 5), .int (-7), .int (wi - 1), .int 0] dX4_byWeight_36 cv_X4_110 (ct_en (w := 5) hds hF hF2 (by decide) hg) (fun r h' hq' => ?_)
      obtain ⟨rfl, rfl⟩ := hq'
      refine v_ist2 39 dX4_byWeight_39 ?_
      refine v_iload_n 40 dX4_byWeight_40 rfl rfl ?_
      refine v_if_lt (tgt := 57) 41 dX4_byWeight_41 (by decide) (fun c41 => ?_) (fun c41 => absurd (c11) c41)
      refine v_iload_n 57 dX4_byWeight_57 rfl rfl ?_
      refine v_bipush (v := -8) 58 dX4_byWeight_58 (by decide) ?_
      refine v_icmp_ne (tgt := 67) 60 dX4_byWeight_60 (by decide) (fun c60 => ?_) (fun c60 => ?_)
      · refine v_iconst (v := 0) 67 dX4_byWeight_67 (by decide) ?_
        refine v_ist3 68 dX4_byWeight_68 ?_
        refine v_aload_n 69 dX4_byWeight_69 rfl rfl ?_
        refine v_iconst (v := 5) 70 dX4_byWeight_70 (by decide) ?_
        refine v_iload_n 71 dX4_byWeight_71 rfl rfl ?_
        refine v_if_eq (tgt := 96) 72 dX4_byWeight_72 (by decide) (fun c72 => ?_) (fun c72 => absurd (rfl) c72)
        refine v_iload_n 96 dX4_byWeight_96 rfl rfl ?_
        refine m_call 97 [.int (nI 5), .int _] dX4_byWeight_97 cv_X4_114 (ct_stk (w := 5) hds hF hF2 (by decide) hg) (fun r h' hq' => ?_)
        obtain ⟨g2, rfl, rfl, hg2⟩ := hq'
        refine v_ist4 100 dX4_byWeight_100 ?_
        refine v_vret 102 dX4_byWeight_102 rfl ?_
        refine ⟨rfl, g2, rfl, ?_⟩
        rw [weiL, if_neg (by rw [bI_z c6]; decide), weiV]
        first
          | (rw [if_neg c11, if_pos c46]; exact hg2)
          | (rw [if_neg c11, if_neg c46]; exact hg2)
          | (rw [if_pos c11, if_pos c60]; exact hg2)
          | (rw [if_pos c11, if_neg c60]; exact hg2)
      · refine v_iconst (v := 1) 63 dX4_byWeight_63 (by decide) ?_
        refine v_goto (tgt := 68) 64 dX4_byWeight_64 (by decide) ?_
        refine v_ist3 68 dX4_byWeight_68 ?_
        refine v_aload_n 69 dX4_byWeight_69 rfl rfl ?_
        refine v_iconst (v := 5) 70 dX4_byWeight_70 (by decide) ?_
        refine v_iload_n 71 dX4_byWeight_71 rfl rfl ?_
        refine v_if_eq (tgt := 96) 72 dX4_byWeight_72 (by decide) (fun c72 => absurd c72 (by decide)) (fun c72 => ?_)
        refine v_aload_n 75 dX4_byWeight_75 rfl rfl ?_
        refine v_iconst (v := 5) 76 dX4_byWeight_76 (by decide) ?_
        refine v_bipush (v := -7) 77 dX4_byWeight_77 (by decide) ?_
        refine v_bipush (v := 7) 79 dX4_byWeight_79 (by decide) ?_
        refine v_iload_n 81 dX4_byWeight_81 rfl rfl ?_
        refine v_if_ge (tgt := 89) 82 dX4_byWeight_82 (by decide) (fun c82 => absurd c82 (Int32.not_le.mpr c11)) (fun c82 => ?_)
        refine v_iconst (v := 1) 85 dX4_byWeight_85 (by decide) ?_
        refine v_goto (tgt := 90) 86 dX4_byWeight_86 (by decide) ?_
        refine m_call 90 [.int (nI 5), .int (-7), .int 7, .int _] dX4_byWeight_90 cv_X4_110 (ct_en (w := 5) hds hF hF2 (by decide) hg) (fun r h' hq' => ?_)
        obtain ⟨rfl, rfl⟩ := hq'
        refine v_goto (tgt := 97) 93 dX4_byWeight_93 (by decide) ?_
        refine m_call 97 [.int (nI 5), .int _] dX4_byWeight_97 cv_X4_114 (ct_stk (w := 5) hds hF hF2 (by decide) hg) (fun r h' hq' => ?_)
        obtain ⟨g2, rfl, rfl, hg2⟩ := hq'
        refine v_ist4 100 dX4_byWeight_100 ?_
        refine v_vret 102 dX4_byWeight_102 rfl ?_
        refine ⟨rfl, g2, rfl, ?_⟩
        rw [weiL, if_neg (by rw [bI_z c6]; decide), weiV]
        first
          | (rw [if_neg c11, if_pos c46]; exact hg2)
          | (rw [if_neg c11, if_neg c46]; exact hg2)
          | (rw [if_pos c11, if_pos c60]; exact hg2)
          | (rw [if_pos c11, if_neg c60]; exact hg2)
    · refine v_aload_n 14 dX4_byWeight_14 rfl rfl ?_
      refine v_iconst (v := 5) 15 dX4_byWeight_15 (by decide) ?_
      refine v_iload_n 16 dX4_byWeight_16 rfl rfl ?_
      refine v_iconst (v := 1) 17 dX4_byWeight_17 (by decide) ?_
      refine v_iadd 18 dX4_byWeight_18 ?_
      refine v_bipush (v := 7) 19 dX4_byWeight_19 (by decide) ?_
      refine v_iconst (v := 1) 21 dX4_byWeight_21 (by decide) ?_
      refine m_call 22 [.int (nI 5), .int (wi + 1), .int (7), .int 1] dX4_byWeight_22 cv_X4_110 (ct_en (w := 5) hds hF hF2 (by decide) hg) (fun r h' hq' => ?_)
      obtain ⟨rfl, rfl⟩ := hq'
      refine v_goto (tgt := 39) 25 dX4_byWeight_25 (by decide) ?_
      refine v_ist2 39 dX4_byWeight_39 ?_
      refine v_iload_n 40 dX4_byWeight_40 rfl rfl ?_
      refine v_if_lt (tgt := 57) 41 dX4_byWeight_41 (by decide) (fun c41 => absurd c41 (c11)) (fun c41 => ?_)
      refine v_iload_n 44 dX4_byWeight_44 rfl rfl ?_
      refine v_iload_n 45 dX4_byWeight_45 rfl rfl ?_
      refine v_icmp_ne (tgt := 53) 46 dX4_byWeight_46 (by decide) (fun c46 => ?_) (fun c46 => ?_)
      · refine v_iconst (v := 0) 53 dX4_byWeight_53 (by decide) ?_
        refine v_goto (tgt := 68) 54 dX4_byWeight_54 (by decide) ?_
        refine v_ist3 68 dX4_byWeight_68 ?_
        refine v_aload_n 69 dX4_byWeight_69 rfl rfl ?_
        refine v_iconst (v := 5) 70 dX4_byWeight_70 (by decide) ?_
        refine v_iload_n 71 dX4_byWeight_71 rfl rfl ?_
        refine v_if_eq (tgt := 96) 72 dX4_byWeight_72 (by decide) (fun c72 => ?_) (fun c72 => absurd (rfl) c72)
        refine v_iload_n 96 dX4_byWeight_96 rfl rfl ?_
        refine m_call 97 [.int (nI 5), .int _] dX4_byWeight_97 cv_X4_114 (ct_stk (w := 5) hds hF hF2 (by decide) hg) (fun r h' hq' => ?_)
        obtain ⟨g2, rfl, rfl, hg2⟩ := hq'
        refine v_ist4 100 dX4_byWeight_100 ?_
        refine v_vret 102 dX4_byWeight_102 rfl ?_
        refine ⟨rfl, g2, rfl, ?_⟩
        rw [weiL, if_neg (by rw [bI_z c6]; decide), weiV]
        first
          | (rw [if_neg c11, if_pos c46]; exact hg2)
          | (rw [if_neg c11, if_neg c46]; exact hg2)
          | (rw [if_pos c11, if_pos c60]; exact hg2)
          | (rw [if_pos c11, if_neg c60]; exact hg2)
      · refine v_iconst (v := 1) 49 dX4_byWeight_49 (by decide) ?_
        refine v_goto (tgt := 68) 50 dX4_byWeight_50 (by decide) ?_
        refine v_ist3 68 dX4_byWeight_68 ?_
        refine v_aload_n 69 dX4_byWeight_69 rfl rfl ?_
        refine v_iconst (v := 5) 70 dX4_byWeight_70 (by decide) ?_
        refine v_iload_n 71 dX4_byWeight_71 rfl rfl ?_
        refine v_if_eq (tgt := 96) 72 dX4_byWeight_72 (by decide) (fun c72 => absurd c72 (by decide)) (fun c72 => ?_)
        refine v_aload_n 75 dX4_byWeight_75 rfl rfl ?_
        refine v_iconst (v := 5) 76 dX4_byWeight_76 (by decide) ?_
        refine v_bipush (v := -7) 77 dX4_byWeight_77 (by decide) ?_
        refine v_bipush (v := 7) 79 dX4_byWeight_79 (by decide) ?_
        refine v_iload_n 81 dX4_byWeight_81 rfl rfl ?_
        refine v_if_ge (tgt := 89) 82 dX4_byWeight_82 (by decide) (fun c82 => ?_) (fun c82 => absurd (Int32.not_lt.mp c11) c82)
        refine v_iconst (v := 0) 89 dX4_byWeight_89 (by decide) ?_
        refine m_call 90 [.int (nI 5), .int (-7), .int 7, .int _] dX4_byWeight_90 cv_X4_110 (ct_en (w := 5) hds hF hF2 (by decide) hg) (fun r h' hq' => ?_)
        obtain ⟨rfl, rfl⟩ := hq'
        refine v_goto (tgt := 97) 93 dX4_byWeight_93 (by decide) ?_
        refine m_call 97 [.int (nI 5), .int _] dX4_byWeight_97 cv_X4_114 (ct_stk (w := 5) hds hF hF2 (by decide) hg) (fun r h' hq' => ?_)
        obtain ⟨g2, rfl, rfl, hg2⟩ := hq'
        refine v_ist4 100 dX4_byWeight_100 ?_
        refine v_vret 102 dX4_byWeight_102 rfl ?_
        refine ⟨rfl, g2, rfl, ?_⟩
        rw [weiL, if_neg (by rw [bI_z c6]; decide), weiV]
        first
          | (rw [if_neg c11, if_pos c46]; exact hg2)
          | (rw [if_neg c11, if_neg c46]; exact hg2)
          | (rw [if_pos c11, if_pos c60]; exact hg2)
          | (rw [if_pos c11, if_neg c60]; exact hg2)
  · refine v_vret 9 dX4_byWeight_9 rfl ?_
    refine ⟨rfl, g, rfl, ?_⟩
    rw [weiL, if_pos (bI_n c6)]
    exact hg

/-- m values from a + n on have moved down to a -/
def shL (f : Nat → Int32) (a n m : Nat) : Nat → Int32 := fun j => if a ≤ j ∧ j < a + m then f (j + n) else f j
theorem shL_0 (f : Nat → Int32) (a n : Nat) : shL f a n 0 = f := by
  funext j; unfold shL; rw [if_neg (by omega)]
theorem shL_at (f : Nat → Int32) (a n m : Nat) : shL f a n m (a + n + m) = f (a + n + m) := by
  unfold shL; rw [if_neg (by omega)]
theorem shL_s (f : Nat → Int32) (a n m : Nat) : upd (shL f a n m) (a + m) (f (a + n + m)) = shL f a n (m + 1) := by
  funext j
  unfold upd shL
  by_cases hj : j = a + m
  · subst hj; rw [if_pos rfl, if_pos (by omega)]; congr 1; omega
  · rw [if_neg hj]
    by_cases h1 : a ≤ j ∧ j < a + m
    · rw [if_pos h1, if_pos (by omega)]
    · rw [if_neg h1, if_neg (by omega)]
set_option maxHeartbeats 4000000 in
set_option maxRecDepth 100000 in
theorem lp_goG1 {K : KT} {h : AH} {mo : Nat} {ad : Nat → Nat} {S : MS} {g : Nat} {a n U : Nat} {Q : QR} {X : QX} (hds : mDis mo ad) (hU : S.1 7 = nI U) (hU2 : U ≤ 20000) (ha : a + n ≤ U) (hby : ∀ j, j < U → vp_nar .byte (S.2 8 j) = S.2 8 j)
    (kk : V K mX4_goGlyph 48 [some (.ref mo), some (.int (nI g)), some (.int (nI a)), some (.int (nI n)), some (.int (nI U))] [] (mPut h mo ad (mA S 8 (shL (S.2 8) a n (U - a - n)))) 0 0 Q X) : ∀ t i : Nat, i + t = U - a - n → V K mX4_goGlyph 17 [some (.ref mo), some (.int (nI g)), some (.int (nI a)), some (.int (nI n)), some (.int (nI (a + n + i)))] [] (mPut h mo ad (mA S 8 (shL (S.2 8) a n i))) 0 0 Q X := by
  intro t
  induction t with
  | zero =>
    intro i hi
    have hiE : i = U - a - n := by omega
    subst hiE
    have hUe : a + n + (U - a - n) = U := by omega
    rw [hUe]
    refine v_iload 17 dX4_goGlyph_17 rfl ?_
    refine v_aload_n 19 dX4_goGlyph_19 rfl rfl ?_
    refine v_getf 20 dX4_goGlyph_20 fl_X4_79 mPut_o rfl ?_
    refine v_icmp_ge (tgt := 48) 23 dX4_goGlyph_23 (by decide) (fun c23 => ?_) (fun c23 => absurd (by rw [mA_1, hU]; exact nI_le (Nat.le_refl _) (by omega)) c23)
    exact kk
  | succ t ih =>
    intro i hi
    refine v_iload 17 dX4_goGlyph_17 rfl ?_
    refine v_aload_n 19 dX4_goGlyph_19 rfl rfl ?_
    refine v_getf 20 dX4_goGlyph_20 fl_X4_79 mPut_o rfl ?_
    refine v_icmp_ge (tgt := 48) 23 dX4_goGlyph_23 (by decide) (fun c23 => absurd c23 (by rw [mA_1, hU]; exact nI_ge (by omega) (by omega))) (fun c23 => ?_)
    refine v_aload_n 26 dX4_goGlyph_26 rfl rfl ?_
    refine v_getf 27 dX4_goGlyph_27 fl_X4_23 mPut_o rfl ?_
    refine v_iload 30 dX4_goGlyph_30 rfl ?_
    refine v_iload_n 32 dX4_goGlyph_32 rfl rfl ?_
    refine v_isub 33 dX4_goGlyph_33 ?_
    refine v_aload_n 34 dX4_goGlyph_34 rfl rfl ?_
    refine v_getf 35 dX4_goGlyph_35 fl_X4_23 mPut_o rfl ?_
    refine v_iload 38 dX4_goGlyph_38 rfl ?_
    refine m_bld 40 8 dX4_goGlyph_40 hds (vp_in_nI (N := 20000) (by omega) (by decide)) ?_
    refine m_bst 41 8 dX4_goGlyph_41 hds (by rw [pk_sub (by omega)]; exact vp_in_nI (N := 20000) (by omega) (by decide)) ?_
    refine v_inc4 (y := 1) 42 dX4_goGlyph_42 (by decide) ?_
    refine v_goto (tgt := 17) 45 dX4_goGlyph_45 (by decide) ?_
    refine V.eq (ih (i + 1) (by omega)) rfl (by rw [nI_1]; rfl) rfl (congrArg (mPut h mo ad) ?_)
    rw [mA_mA, mA_s, pk_sub (by omega), nI_clamp (by omega), nI_clamp (by omega), shL_at, hby _ (by omega), show a + n + i - n = a + i by omega, shL_s]
set_option maxHeartbeats 4000000 in
set_option maxRecDepth 100000 in
theorem lp_goG2 {K : KT} {h : AH} {mo : Nat} {ad : Nat → Nat} {S : MS} {g G : Nat} {x y : Int32} {Q : QR} {X : QX} (hds : mDis mo ad) (hG : S.1 5 = nI G) (hG2 : G ≤ 256) (hg : g ≤ G) (hq : Q none (mPut h mo ad (mA S 6 (shL (S.2 6) (7 * g) 7 (7 * G - 7 * g))))) : ∀ t i : Nat, i + t = 7 * G - 7 * g → V K mX4_goGlyph 74 [some (.ref mo), some (.int (nI g)), some (.int x), some (.int y), some (.int (nI (7 * g + i)))] [] (mPut h mo ad (mA S 6 (shL (S.2 6) (7 * g) 7 i))) 0 0 Q X := by
  intro t
  induction t with
  | zero =>
    intro i hi
    have hiE : i = 7 * G - 7 * g := by omega
    subst hiE
    refine v_iload 74 dX4_goGlyph_74 rfl ?_
    refine v_bipush (v := 7) 76 dX4_goGlyph_76 (by decide) ?_
    refine v_aload_n 78 dX4_goGlyph_78 rfl rfl ?_
    refine v_getf 79 dX4_goGlyph_79 fl_X4_73 mPut_o rfl ?_
    refine v_imul 82 dX4_goGlyph_82 ?_
    refine v_icmp_ge (tgt := 109) 83 dX4_goGlyph_83 (by decide) (fun c83 => ?_) (fun c83 => absurd (by rw [mA_1, hG, m7]; exact nI_le (by omega) (by omega)) c83)
    refine v_vret 109 dX4_goGlyph_109 rfl ?_
    exact hq
  | succ t ih =>
    intro i hi
    refine v_iload 74 dX4_goGlyph_74 rfl ?_
    refine v_bipush (v := 7) 76 dX4_goGlyph_76 (by decide) ?_
    refine v_aload_n 78 dX4_goGlyph_78 rfl rfl ?_
    refine v_getf 79 dX4_goGlyph_79 fl_X4_73 mPut_o rfl ?_
    refine v_imul 82 dX4_goGlyph_82 ?_
    refine v_icmp_ge (tgt := 109) 83 dX4_goGlyph_83 (by decide) (fun c83 => absurd c83 (by rw [mA_1, hG, m7]; exact nI_ge (by omega) (by omega))) (fun c83 => ?_)
    refine v_aload_n 86 dX4_goGlyph_86 rfl rfl ?_
    refine v_getf 87 dX4_goGlyph_87 fl_X4_20 mPut_o rfl ?_
    refine v_iload 90 dX4_goGlyph_90 rfl ?_
    refine v_aload_n 92 dX4_goGlyph_92 rfl rfl ?_
    refine v_getf 93 dX4_goGlyph_93 fl_X4_20 mPut_o rfl ?_
    refine v_iload 96 dX4_goGlyph_96 rfl ?_
    refine v_bipush (v := 7) 98 dX4_goGlyph_98 (by decide) ?_
    refine v_iadd 100 dX4_goGlyph_100 ?_
    refine m_ild 101 6 dX4_goGlyph_101 hds (by rw [show (7 : Int32) = nI 7 from rfl, nI_add]; exact vp_in_nI (N := 1799) (by omega) (by decide)) ?_
    refine m_ist 102 6 dX4_goGlyph_102 hds (vp_in_nI (N := 1799) (by omega) (by decide)) ?_
    refine v_inc4 (y := 1) 103 dX4_goGlyph_103 (by decide) ?_
    refine v_goto (tgt := 74) 106 dX4_goGlyph_106 (by decide) ?_
    refine V.eq (ih (i + 1) (by omega)) rfl (by rw [nI_1]; rfl) rfl (congrArg (mPut h mo ad) ?_)
    rw [mA_mA, mA_s, show (7 : Int32) = nI 7 from rfl, nI_add, nI_clamp (by omega), nI_clamp (by omega), show 7 * g + i + 7 = 7 * g + 7 + i by omega, shL_at, shL_s]
def goG (S : MS) (g a n U G : Nat) : MS := mA (mI (mI (mA S 8 (shL (S.2 8) a n (U - a - n))) 7 (nI (U - n))) 5 (nI (G - 1))) 6 (shL (S.2 6) (7 * g) 7 (7 * (G - 1) - 7 * g))
set_option maxHeartbeats 4000000 in
set_option maxRecDepth 100000 in
theorem ct_goGlyph {K : KT} {h : AH} {mo : Nat} {ad : Nat → Nat} {S : MS} {g a n U G : Nat} (hds : mDis mo ad) (hU : S.1 7 = nI U) (hU2 : U ≤ 20000) (ha : a + n ≤ U) (hby : ∀ j, j < U → vp_nar .byte (S.2 8 j) = S.2 8 j) (hG : S.1 5 = nI G) (hG2 : G ≤ 256) (hg : g < G) (hat : gSt S g = nI a) (hnb : gB S g = nI n) : Ct K mX4_goGlyph 0 0 [.ref mo, .int (nI g)] (mPut h mo ad S) (fun r h' => r = none ∧ h' = mPut h mo ad (goG S g a n U G)) noX := by
  refine ct_of (by decide +kernel) rfl (Nat.le_of_ble_eq_true rfl) rfl ?_
  refine v_aload_n 0 dX4_goGlyph_0 rfl rfl ?_
  refine v_iload_n 1 dX4_goGlyph_1 rfl rfl ?_
  refine m_call 2 [.int (nI g)] dX4_goGlyph_2 cv_X4_76 (ct_startOf (G := g) hds (by omega)) (fun r h' hq' => ?_)
  obtain ⟨rfl, rfl⟩ := hq'
  rw [hat]
  refine v_ist2 5 dX4_goGlyph_5 ?_
  refine v_aload_n 6 dX4_goGlyph_6 rfl rfl ?_
  refine v_iload_n 7 dX4_goGlyph_7 rfl rfl ?_
  refine m_call 8 [.int (nI g)] dX4_goGlyph_8 cv_X4_69 (ct_bytesN hds (by omega)) (fun r h' hq' => ?_)
  obtain ⟨rfl, rfl⟩ := hq'
  rw [hnb]
  refine v_ist3 11 dX4_goGlyph_11 ?_
  refine v_iload_n 12 dX4_goGlyph_12 rfl rfl ?_
  refine v_iload_n 13 dX4_goGlyph_13 rfl rfl ?_
  refine v_iadd 14 dX4_goGlyph_14 ?_
  refine v_ist4 15 dX4_goGlyph_15 ?_
  refine V.eq (lp_goG1 (S := S) (g := g) (a := a) (n := n) hds hU hU2 ha hby ?_ (U - a - n) 0 (by omega)) rfl (by rw [nI_add]; rfl) rfl (congrArg (mPut h mo ad) (by rw [shL_0, mA_self]))
  refine v_aload_n 48 dX4_goGlyph_48 rfl rfl ?_
  refine v_dup 49 dX4_goGlyph_49 rfl ?_
  refine v_getf 50 dX4_goGlyph_50 fl_X4_79 mPut_o rfl ?_
  refine v_iload_n 53 dX4_goGlyph_53 rfl rfl ?_
  refine v_isub 54 dX4_goGlyph_54 ?_
  refine m_put 55 dX4_goGlyph_55 fl_X4_79 ?_
  refine v_aload_n 58 dX4_goGlyph_58 rfl rfl ?_
  refine v_dup 59 dX4_goGlyph_59 rfl ?_
  refine v_getf 60 dX4_goGlyph_60 fl_X4_73 mPut_o rfl ?_
  refine v_iconst (v := 1) 63 dX4_goGlyph_63 (by decide) ?_
  refine v_isub 64 dX4_goGlyph_64 ?_
  refine m_put 65 dX4_goGlyph_65 fl_X4_73 ?_
  refine v_bipush (v := 7) 68 dX4_goGlyph_68 (by decide) ?_
  refine v_iload_n 70 dX4_goGlyph_70 rfl rfl ?_
  refine v_imul 71 dX4_goGlyph_71 ?_
  refine v_ist4 72 dX4_goGlyph_72 ?_
  refine V.eq (lp_goG2 (S := mI (mI (mA S 8 (shL (S.2 8) a n (U - a - n))) 7 (nI (U - n))) 5 (nI (G - 1))) (g := g) (G := G - 1) hds (mI_s _ _ _) (by omega) (by omega) ⟨rfl, rfl⟩ (7 * (G - 1) - 7 * g) 0 (by omega)) rfl (by rw [m7]; rfl) rfl (congrArg (mPut h mo ad) ?_)
  rw [shL_0]
  have e1 : S.1 7 - nI n = nI (U - n) := by rw [hU, pk_sub (by omega)]
  have e2 : S.1 5 - 1 = nI (G - 1) := by rw [hG, show (1 : Int32) = nI 1 from rfl, pk_sub (by omega)]
  show mA _ 6 _ = _
  rw [← e1, ← e2]
  exact mA_self _ 6

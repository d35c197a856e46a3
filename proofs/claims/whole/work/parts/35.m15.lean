/-! ===== which fonts are left: l; the attribute w of font i: at7 S w i ===== -/
def bI (b : Bool) : Int32 := if b = true then 1 else 0
theorem bI_t : bI true = 1 := rfl
theorem bI_f : bI false = 0 := rfl
theorem bI_n {b : Bool} (h : ¬ bI b = 0) : b = true := by cases b; exact absurd rfl h; rfl
theorem bI_z {b : Bool} (h : bI b = 0) : b = false := by cases b; rfl; exact absurd h (by decide)
theorem bI_nar (b : Bool) : vp_nar .boolean (bI b) = bI b := by cases b <;> decide
def at7 (S : MS) (w : Nat) (i : Nat) : Int32 := S.2 3 (7 * i + w)
def lRep (S : MS) (l : Nat → Bool) (F : Nat) : Prop := ∀ i, i < F → S.2 19 i = bI (l i)
def anyI (l : Nat → Bool) (v : Nat → Int32) (x : Int32) : Nat → Bool
  | 0 => false
  | k + 1 => anyI l v x k || (l k && decide (v k = x))
def hav (l : Nat → Bool) (v : Nat → Int32) (x : Int32) : Nat → Bool := fun i => l i && decide (v i = x)
def skL (l : Nat → Bool) (v : Nat → Int32) (x : Int32) (F : Nat) : Nat → Bool := if anyI l v x F = true then hav l v x else l
def skF (f : Nat → Int32) (l : Nat → Bool) (v : Nat → Int32) (x : Int32) (k : Nat) : Nat → Int32 := fun j => if j < k then bI (hav l v x j) else f j
theorem skF_0 (f : Nat → Int32) (l : Nat → Bool) (v : Nat → Int32) (x : Int32) : skF f l v x 0 = f := by
  funext j; unfold skF; rw [if_neg (by omega)]
theorem skF_at (f : Nat → Int32) (l : Nat → Bool) (v : Nat → Int32) (x : Int32) (k : Nat) : skF f l v x k k = f k := if_neg (by omega)
theorem skF_s (f : Nat → Int32) (l : Nat → Bool) (v : Nat → Int32) (x : Int32) (k : Nat) {y : Int32} (hy : y = bI (hav l v x k)) : upd (skF f l v x k) k (vp_nar .boolean y) = skF f l v x (k + 1) := by
  rw [hy, bI_nar]
  funext j
  unfold upd skF
  by_cases hj : j = k
  · subst hj; rw [if_pos rfl, if_pos (by omega)]
  · rw [if_neg hj]
    by_cases h1 : j < k
    · rw [if_pos h1, if_pos (by omega)]
    · rw [if_neg h1, if_neg (by omega)]
theorem anyI_t1 {l : Nat → Bool} {v : Nat → Int32} {x : Int32} {k : Nat} (h : ¬ bI (anyI l v x k) = 0) : bI (anyI l v x (k + 1)) = 1 := by
  rw [anyI, bI_n h]; rfl
theorem anyI_t2 {l : Nat → Bool} {v : Nat → Int32} {x : Int32} {k : Nat} (h : ¬ bI (l k) = 0) (h2 : v k = x) : bI (anyI l v x (k + 1)) = 1 := by
  rw [anyI, bI_n h, decide_eq_true h2, Bool.and_self, Bool.or_true]; rfl
theorem anyI_f1 {l : Nat → Bool} {v : Nat → Int32} {x : Int32} {k : Nat} (h0 : bI (anyI l v x k) = 0) (h : bI (l k) = 0) : bI (anyI l v x (k + 1)) = 0 := by
  rw [anyI, bI_z h0, bI_z h]; rfl
theorem anyI_f2 {l : Nat → Bool} {v : Nat → Int32} {x : Int32} {k : Nat} (h0 : bI (anyI l v x k) = 0) (h : ¬ v k = x) : bI (anyI l v x (k + 1)) = 0 := by
  rw [anyI, bI_z h0, decide_eq_false h, Bool.and_false]; rfl
theorem hav_t {l : Nat → Bool} {v : Nat → Int32} {x : Int32} {k : Nat} (h : ¬ bI (l k) = 0) (h2 : v k = x) : bI (hav l v x k) = 1 := by
  unfold hav; rw [bI_n h, decide_eq_true h2]; rfl
theorem hav_f1 {l : Nat → Bool} {v : Nat → Int32} {x : Int32} {k : Nat} (h : bI (l k) = 0) : bI (hav l v x k) = 0 := by
  unfold hav; rw [bI_z h]; rfl
theorem hav_f2 {l : Nat → Bool} {v : Nat → Int32} {x : Int32} {k : Nat} (h : ¬ v k = x) : bI (hav l v x k) = 0 := by
  unfold hav; rw [decide_eq_false h, Bool.and_false]; rfl
def enI (l : Nat → Bool) (v : Nat → Int32) (lo hi : Int32) (le : Int32) : Nat → Int32
  | 0 => lo - 1
  | k + 1 => if (l k = true ∧ ¬ v k < lo ∧ ¬ hi < v k) ∧ (enI l v lo hi le k < lo ∨ (if le = 0 then enI l v lo hi le k < v k else v k < enI l v lo hi le k)) then v k else enI l v lo hi le k
set_option maxHeartbeats 4000000 in
set_option maxRecDepth 100000 in
theorem lp_str1 {K : KT} {h : AH} {mo : Nat} {ad : Nat → Nat} {S : MS} {l : Nat → Bool} {w F : Nat} {x : Int32} {Q : QR} {X : QX} (hds : mDis mo ad) (hF : S.1 1 = nI F) (hF2 : F ≤ 32) (hw : w < 7) (hl : lRep S l F)
    (kk : V K mX4_strike 56 [some (.ref mo), some (.int (nI w)), some (.int x), some (.int (bI (anyI l (at7 S w) x F))), some (.int (nI F))] [] (mPut h mo ad S) 0 0 Q X) : ∀ t k : Nat, k + t = F → V K mX4_strike 5 [some (.ref mo), some (.int (nI w)), some (.int x), some (.int (bI (anyI l (at7 S w) x k))), some (.int (nI k))] [] (mPut h mo ad S) 0 0 Q X := by
  intro t
  induction t with
  | zero =>
    intro k hk
    have hkF : k = F := by omega
    subst hkF
    refine v_iload 5 dX4_strike_5 rfl ?_
    refine v_aload_n 7 dX4_strike_7 rfl rfl ?_
    refine v_getf 8 dX4_strike_8 fl_X4_66 mPut_o rfl ?_
    refine v_icmp_ge (tgt := 56) 11 dX4_strike_11 (by decide) (fun c11 => ?_) (fun c11 => absurd (by rw [hF]; exact nI_le (Nat.le_refl _) (by omega)) c11)
    exact kk
  | succ t ih =>
    intro k hk
    have hlk : S.2 19 (nI k).toNatClampNeg = bI (l k) := by rw [nI_clamp (by omega)]; exact hl k (by omega)
    have e1 : (7 : Int32) * nI k + nI w = nI (7 * k + w) := by rw [m7, nI_add]
    have hvk : S.2 3 ((7 : Int32) * nI k + nI w).toNatClampNeg = at7 S w k := by rw [e1, nI_clamp (by omega)]; rfl
    refine v_iload 5 dX4_strike_5 rfl ?_
    refine v_aload_n 7 dX4_strike_7 rfl rfl ?_
    refine v_getf 8 dX4_strike_8 fl_X4_66 mPut_o rfl ?_
    refine v_icmp_ge (tgt := 56) 11 dX4_strike_11 (by decide) (fun c11 => absurd c11 (by rw [hF]; exact nI_ge (by omega) (by omega))) (fun c11 => ?_)
    refine v_iload_n 14 dX4_strike_14 rfl rfl ?_
    refine v_if_ne (tgt := 44) 15 dX4_strike_15 (by decide) (fun c15 => ?_) (fun c15 => ?_)
    · refine v_iconst (v := 1) 44 dX4_strike_44 (by decide) ?_
      refine v_goto (tgt := 49) 45 dX4_strike_45 (by decide) ?_
      refine v_ist3 49 dX4_strike_49 ?_
      refine v_inc4 (y := 1) 50 dX4_strike_50 (by decide) ?_
      refine v_goto (tgt := 5) 53 dX4_strike_53 (by decide) ?_
      refine V.eq (ih (k + 1) (by omega)) rfl ?_ rfl rfl
      rw [← nI_1]
      first
        | rw [anyI_t1 c15] <;> rfl
        | rw [anyI_f1 c15 (by rw [← hlk]; exact c25)] <;> rfl
        | rw [anyI_t2 (by rw [← hlk]; exact c25) (by rw [← hvk]; exact c41)] <;> rfl
        | rw [anyI_f2 c15 (by rw [← hvk]; exact c41)] <;> rfl
    · refine v_aload_n 18 dX4_strike_18 rfl rfl ?_
      refine v_getf 19 dX4_strike_19 fl_X4_42 mPut_o rfl ?_
      refine v_iload 22 dX4_strike_22 rfl ?_
      refine m_zld 24 19 dX4_strike_24 hds (vp_in_nI (N := 32) (by omega) (by decide)) ?_
      refine v_if_eq (tgt := 48) 25 dX4_strike_25 (by decide) (fun c25 => ?_) (fun c25 => ?_)
      · refine v_iconst (v := 0) 48 dX4_strike_48 (by decide) ?_
        refine v_ist3 49 dX4_strike_49 ?_
        refine v_inc4 (y := 1) 50 dX4_strike_50 (by decide) ?_
        refine v_goto (tgt := 5) 53 dX4_strike_53 (by decide) ?_
        refine V.eq (ih (k + 1) (by omega)) rfl ?_ rfl rfl
        rw [← nI_1]
        first
          | rw [anyI_t1 c15] <;> rfl
          | rw [anyI_f1 c15 (by rw [← hlk]; exact c25)] <;> rfl
          | rw [anyI_t2 (by rw [← hlk]; exact c25) (by rw [← hvk]; exact c41)] <;> rfl
          | rw [anyI_f2 c15 (by rw [← hvk]; exact c41)] <;> rfl
      · refine v_aload_n 28 dX4_strike_28 rfl rfl ?_
        refine v_getf 29 dX4_strike_29 fl_X4_13 mPut_o rfl ?_
        refine v_bipush (v := 7) 32 dX4_strike_32 (by decide) ?_
        refine v_iload 34 dX4_strike_34 rfl ?_
        refine v_imul 36 dX4_strike_36 ?_
        refine v_iload_n 37 dX4_strike_37 rfl rfl ?_
        refine v_iadd 38 dX4_strike_38 ?_
        refine m_ild 39 3 dX4_strike_39 hds (by rw [e1]; exact vp_in_nI (N := 231) (by omega) (by decide)) ?_
        refine v_iload_n 40 dX4_strike_40 rfl rfl ?_
        refine v_icmp_ne (tgt := 48) 41 dX4_strike_41 (by decide) (fun c41 => ?_) (fun c41 => ?_)
        · refine v_iconst (v := 0) 48 dX4_strike_48 (by decide) ?_
          refine v_ist3 49 dX4_strike_49 ?_
          refine v_inc4 (y := 1) 50 dX4_strike_50 (by decide) ?_
          refine v_goto (tgt := 5) 53 dX4_strike_53 (by decide) ?_
          refine V.eq (ih (k + 1) (by omega)) rfl ?_ rfl rfl
          rw [← nI_1]
          first
            | rw [anyI_t1 c15] <;> rfl
            | rw [anyI_f1 c15 (by rw [← hlk]; exact c25)] <;> rfl
            | rw [anyI_t2 (by rw [← hlk]; exact c25) (by rw [← hvk]; exact c41)] <;> rfl
            | rw [anyI_f2 c15 (by rw [← hvk]; exact c41)] <;> rfl
        · refine v_iconst (v := 1) 44 dX4_strike_44 (by decide) ?_
          refine v_goto (tgt := 49) 45 dX4_strike_45 (by decide) ?_
          refine v_ist3 49 dX4_strike_49 ?_
          refine v_inc4 (y := 1) 50 dX4_strike_50 (by decide) ?_
          refine v_goto (tgt := 5) 53 dX4_strike_53 (by decide) ?_
          refine V.eq (ih (k + 1) (by omega)) rfl ?_ rfl rfl
          rw [← nI_1]
          first
            | rw [anyI_t1 c15] <;> rfl
            | rw [anyI_f1 c15 (by rw [← hlk]; exact c25)] <;> rfl
            | rw [anyI_t2 (by rw [← hlk]; exact c25) (by rw [← hvk]; exact c41)] <;> rfl
            | rw [anyI_f2 c15 (by rw [← hvk]; exact c41)] <;> rfl
set_option maxHeartbeats 4000000 in
set_option maxRecDepth 100000 in
theorem lp_str2 {K : KT} {h : AH} {mo : Nat} {ad : Nat → Nat} {S : MS} {l : Nat → Bool} {w F : Nat} {x : Int32} {Q : QR} {X : QX} (hds : mDis mo ad) (hF : S.1 1 = nI F) (hF2 : F ≤ 32) (hw : w < 7) (hl : lRep S l F)
    (hq : Q (some (.int 1)) (mPut h mo ad (mA S 19 (skF (S.2 19) l (at7 S w) x F)))) : ∀ t k : Nat, k + t = F → V K mX4_strike 59 [some (.ref mo), some (.int (nI w)), some (.int x), some (.int 1), some (.int (nI k))] [] (mPut h mo ad (mA S 19 (skF (S.2 19) l (at7 S w) x k))) 0 0 Q X := by
  intro t
  induction t with
  | zero =>
    intro k hk
    have hkF : k = F := by omega
    subst hkF
    refine v_iload 59 dX4_strike_59 rfl ?_
    refine v_aload_n 61 dX4_strike_61 rfl rfl ?_
    refine v_getf 62 dX4_strike_62 fl_X4_66 mPut_o rfl ?_
    refine v_icmp_ge (tgt := 116) 65 dX4_strike_65 (by decide) (fun c65 => ?_) (fun c65 => absurd (by rw [mA_1, hF]; exact nI_le (Nat.le_refl _) (by omega)) c65)
    refine v_iload_n 116 dX4_strike_116 rfl rfl ?_
    refine v_iret 117 dX4_strike_117 rfl rfl ?_
    exact hq
  | succ t ih =>
    intro k hk
    have hlk : (mA S 19 (skF (S.2 19) l (at7 S w) x k)).2 19 (nI k).toNatClampNeg = bI (l k) := by rw [nI_clamp (by omega), mA_s, skF_at]; exact hl k (by omega)
    have e1 : (7 : Int32) * nI k + nI w = nI (7 * k + w) := by rw [m7, nI_add]
    have hvk : (mA S 19 (skF (S.2 19) l (at7 S w) x k)).2 3 ((7 : Int32) * nI k + nI w).toNatClampNeg = at7 S w k := by rw [e1, nI_clamp (by omega)]; rfl
    refine v_iload 59 dX4_strike_59 rfl ?_
    refine v_aload_n 61 dX4_strike_61 rfl rfl ?_
    refine v_getf 62 dX4_strike_62 fl_X4_66 mPut_o rfl ?_
    refine v_icmp_ge (tgt := 116) 65 dX4_strike_65 (by decide) (fun c65 => absurd c65 (by rw [mA_1, hF]; exact nI_ge (by omega) (by omega))) (fun c65 => ?_)
    refine v_iload_n 68 dX4_strike_68 rfl rfl ?_
    refine v_if_eq (tgt := 116) 69 dX4_strike_69 (by decide) (fun c69 => absurd c69 (by decide)) (fun c69 => ?_)
    refine v_aload_n 72 dX4_strike_72 rfl rfl ?_
    refine v_getf 73 dX4_strike_73 fl_X4_42 mPut_o rfl ?_
    refine v_iload 76 dX4_strike_76 rfl ?_
    refine v_aload_n 78 dX4_strike_78 rfl rfl ?_
    refine v_getf 79 dX4_strike_79 fl_X4_42 mPut_o rfl ?_
    refine v_iload 82 dX4_strike_82 rfl ?_
    refine m_zld 84 19 dX4_strike_84 hds (vp_in_nI (N := 32) (by omega) (by decide)) ?_
    refine v_if_eq (tgt := 108) 85 dX4_strike_85 (by decide) (fun c85 => ?_) (fun c85 => ?_)
    · refine v_iconst (v := 0) 108 dX4_strike_108 (by decide) ?_
      refine m_zst 109 19 dX4_strike_109 hds (vp_in_nI (N := 32) (by omega) (by decide)) ?_
      refine v_inc4 (y := 1) 110 dX4_strike_110 (by decide) ?_
      refine v_goto (tgt := 59) 113 dX4_strike_113 (by decide) ?_
      refine V.eq (ih (k + 1) (by omega)) rfl (by rw [← nI_1]) rfl (congrArg (mPut h mo ad) ?_)
      rw [mA_mA, mA_s, nI_clamp (by omega)]
      refine congrArg (mA S 19) (skF_s _ _ _ _ k ?_).symm
      first
        | exact (hav_f1 (by rw [← hlk]; exact c85)).symm
        | exact (hav_f2 (by rw [← hvk]; exact c101)).symm
        | exact (hav_t (by rw [← hlk]; exact c85) (by rw [← hvk]; exact c101)).symm
    · refine v_aload_n 88 dX4_strike_88 rfl rfl ?_
      refine v_getf 89 dX4_strike_89 fl_X4_13 mPut_o rfl ?_
      refine v_bipush (v := 7) 92 dX4_strike_92 (by decide) ?_
      refine v_iload 94 dX4_strike_94 rfl ?_
      refine v_imul 96 dX4_strike_96 ?_
      refine v_iload_n 97 dX4_strike_97 rfl rfl ?_
      refine v_iadd 98 dX4_strike_98 ?_
      refine m_ild 99 3 dX4_strike_99 hds (by rw [e1]; exact vp_in_nI (N := 231) (by omega) (by decide)) ?_
      refine v_iload_n 100 dX4_strike_100 rfl rfl ?_
      refine v_icmp_ne (tgt := 108) 101 dX4_strike_101 (by decide) (fun c101 => ?_) (fun c101 => ?_)
      · refine v_iconst (v := 0) 108 dX4_strike_108 (by decide) ?_
        refine m_zst 109 19 dX4_strike_109 hds (vp_in_nI (N := 32) (by omega) (by decide)) ?_
        refine v_inc4 (y := 1) 110 dX4_strike_110 (by decide) ?_
        refine v_goto (tgt := 59) 113 dX4_strike_113 (by decide) ?_
        refine V.eq (ih (k + 1) (by omega)) rfl (by rw [← nI_1]) rfl (congrArg (mPut h mo ad) ?_)
        rw [mA_mA, mA_s, nI_clamp (by omega)]
        refine congrArg (mA S 19) (skF_s _ _ _ _ k ?_).symm
        first
          | exact (hav_f1 (by rw [← hlk]; exact c85)).symm
          | exact (hav_f2 (by rw [← hvk]; exact c101)).symm
          | exact (hav_t (by rw [← hlk]; exact c85) (by rw [← hvk]; exact c101)).symm
      · refine v_iconst (v := 1) 104 dX4_strike_104 (by decide) ?_
        refine v_goto (tgt := 109) 105 dX4_strike_105 (by decide) ?_
        refine m_zst 109 19 dX4_strike_109 hds (vp_in_nI (N := 32) (by omega) (by decide)) ?_
        refine v_inc4 (y := 1) 110 dX4_strike_110 (by decide) ?_
        refine v_goto (tgt := 59) 113 dX4_strike_113 (by decide) ?_
        refine V.eq (ih (k + 1) (by omega)) rfl (by rw [← nI_1]) rfl (congrArg (mPut h mo ad) ?_)
        rw [mA_mA, mA_s, nI_clamp (by omega)]
        refine congrArg (mA S 19) (skF_s _ _ _ _ k ?_).symm
        first
          | exact (hav_f1 (by rw [← hlk]; exact c85)).symm
          | exact (hav_f2 (by rw [← hvk]; exact c101)).symm
          | exact (hav_t (by rw [← hlk]; exact c85) (by rw [← hvk]; exact c101)).symm
set_option maxHeartbeats 4000000 in
set_option maxRecDepth 100000 in
theorem ct_strike {K : KT} {h : AH} {mo : Nat} {ad : Nat → Nat} {S : MS} {l : Nat → Bool} {w F : Nat} {x : Int32} (hds : mDis mo ad) (hF : S.1 1 = nI F) (hF2 : F ≤ 32) (hw : w < 7) (hl : lRep S l F) : Ct K mX4_strike 0 0 [.ref mo, .int (nI w), .int x] (mPut h mo ad S) (fun r h' => ∃ f, r = some (.int (bI (anyI l (at7 S w) x F))) ∧ h' = mPut h mo ad (mA S 19 f) ∧ lRep (mA S 19 f) (skL l (at7 S w) x F) F) noX := by
  refine ct_of (by decide +kernel) rfl (Nat.le_of_ble_eq_true rfl) rfl ?_
  refine v_iconst (v := 0) 0 dX4_strike_0 (by decide) ?_
  refine v_ist3 1 dX4_strike_1 ?_
  refine v_iconst (v := 0) 2 dX4_strike_2 (by decide) ?_
  refine v_ist4 3 dX4_strike_3 ?_
  refine V.eq (lp_str1 (S := S) (l := l) (w := w) (F := F) (x := x) hds hF hF2 hw hl ?_ F 0 (by omega)) rfl rfl rfl rfl
  refine v_iconst (v := 0) 56 dX4_strike_56 (by decide) ?_
  refine v_ist4 57 dX4_strike_57 ?_
  cases ha : anyI l (at7 S w) x F with
  | false =>
    refine v_iload 59 dX4_strike_59 rfl ?_
    refine v_aload_n 61 dX4_strike_61 rfl rfl ?_
    refine v_getf 62 dX4_strike_62 fl_X4_66 mPut_o rfl ?_
    refine v_icmp_ge (tgt := 116) 65 dX4_strike_65 (by decide) (fun c65 => ?_) (fun c65 => ?_)
    · refine v_iload_n 116 dX4_strike_116 rfl rfl ?_
      refine v_iret 117 dX4_strike_117 rfl rfl ?_
      refine ⟨S.2 19, rfl, by rw [mA_self], ?_⟩
      rw [mA_self, skL, if_neg (by rw [ha]; decide)]
      exact hl
    · refine v_iload_n 68 dX4_strike_68 rfl rfl ?_
      refine v_if_eq (tgt := 116) 69 dX4_strike_69 (by decide) (fun c69 => ?_) (fun c69 => absurd (rfl) c69)
      refine v_iload_n 116 dX4_strike_116 rfl rfl ?_
      refine v_iret 117 dX4_strike_117 rfl rfl ?_
      refine ⟨S.2 19, rfl, by rw [mA_self], ?_⟩
      rw [mA_self, skL, if_neg (by rw [ha]; decide)]
      exact hl
  | true =>
    refine V.eq (lp_str2 (S := S) (l := l) (w := w) (F := F) (x := x) hds hF hF2 hw hl ⟨_, rfl, rfl, ?_⟩ F 0 (by omega)) rfl rfl rfl (congrArg (mPut h mo ad) (by rw [skF_0, mA_self]))
    intro i hi
    rw [mA_s, skL, if_pos ha]
    exact if_pos hi
set_option maxHeartbeats 4000000 in
set_option maxRecDepth 100000 in
theorem lp_end {K : KT} {h : AH} {mo : Nat} {ad : Nat → Nat} {S : MS} {l : Nat → Bool} {w F : Nat} {lo hi le : Int32} {Q : QR} {X : QX} (hds : mDis mo ad) (hF : S.1 1 = nI F) (hF2 : F ≤ 32) (hw : w < 7) (hl : lRep S l F)
    (hq : Q (some (.int (enI l (at7 S w) lo hi le F))) (mPut h mo ad S)) : ∀ (t k : Nat) (z7 z8 : Option Value), k + t = F → oc1 z7 = true → oc1 z8 = true → V K mX4_end 8 [some (.ref mo), some (.int (nI w)), some (.int lo), some (.int hi), some (.int le), some (.int (enI l (at7 S w) lo hi le k)), some (.int (nI k)), z7, z8] [] (mPut h mo ad S) 0 0 Q X := by
  intro t
  induction t with
  | zero =>
    intro k z7 z8 hk hz7 hz8
    have hkF : k = F := by omega
    subst hkF
    refine v_iload 8 dX4_end_8 rfl ?_
    refine v_aload_n 10 dX4_end_10 rfl rfl ?_
    refine v_getf 11 dX4_end_11 fl_X4_66 mPut_o rfl ?_
    refine v_icmp_ge (tgt := 108) 14 dX4_end_14 (by decide) (fun c14 => ?_) (fun c14 => absurd (by rw [hF]; exact nI_le (Nat.le_refl _) (by omega)) c14)
    refine v_iload 108 dX4_end_108 rfl ?_
    refine v_iret 110 dX4_end_110 rfl rfl ?_
    exact hq
  | succ t ih =>
    intro k z7 z8 hk hz7 hz8
    have hlk : S.2 19 (nI k).toNatClampNeg = bI (l k) := by rw [nI_clamp (by omega)]; exact hl k (by omega)
    have e1 : (7 : Int32) * nI k + nI w = nI (7 * k + w) := by rw [m7, nI_add]
    have hvk : S.2 3 ((7 : Int32) * nI k + nI w).toNatClampNeg = at7 S w k := by rw [e1, nI_clamp (by omega)]; rfl
    refine v_iload 8 dX4_end_8 rfl ?_
    refine v_aload_n 10 dX4_end_10 rfl rfl ?_
    refine v_getf 11 dX4_end_11 fl_X4_66 mPut_o rfl ?_
    refine v_icmp_ge (tgt := 108) 14 dX4_end_14 (by decide) (fun c14 => absurd c14 (by rw [hF]; exact nI_ge (by omega) (by omega))) (fun c14 => ?_)
    refine v_aload_n 17 dX4_end_17 rfl rfl ?_
    refine v_getf 18 dX4_end_18 fl_X4_13 mPut_o rfl ?_
    refine v_bipush (v := 7) 21 dX4_end_21 (by decide) ?_
    refine v_iload 23 dX4_end_23 rfl ?_
    refine v_imul 25 dX4_end_25 ?_
    refine v_iload_n 26 dX4_end_26 rfl rfl ?_
    refine v_iadd 27 dX4_end_27 ?_
    refine m_ild 28 3 dX4_end_28 hds (by rw [e1]; exact vp_in_nI (N := 231) (by omega) (by decide)) ?_
    rw [hvk]
    refine v_ist7 29 dX4_end_29 ?_
    refine v_aload_n 31 dX4_end_31 rfl rfl ?_
    refine v_getf 32 dX4_end_32 fl_X4_42 mPut_o rfl ?_
    refine v_iload 35 dX4_end_35 rfl ?_
    refine m_zld 37 19 dX4_end_37 hds (vp_in_nI (N := 32) (by omega) (by decide)) ?_
    refine v_if_eq (tgt := 57) 38 dX4_end_38 (by decide) (fun c38 => ?_) (fun c38 => ?_)
    · refine v_iconst (v := 0) 57 dX4_end_57 (by decide) ?_
      refine v_ist8 58 dX4_end_58 ?_
      refine v_iload 60 dX4_end_60 rfl ?_
      refine v_if_eq (tgt := 98) 62 dX4_end_62 (by decide) (fun c62 => ?_) (fun c62 => absurd (rfl) c62)
      refine v_iload 98 dX4_end_98 rfl ?_
      refine v_ist5 100 dX4_end_100 ?_
      refine v_inc6 (y := 1) 102 dX4_end_102 (by decide) ?_
      refine v_goto (tgt := 8) 105 dX4_end_105 (by decide) ?_
      rw [show nI k + 1 = nI (k + 1) from nI_1 k]
      first
        | (refine V.eq (ih (k + 1) (some (.int (at7 S w k))) (some (.int 0)) (by omega) rfl rfl) rfl ?_ rfl rfl; rw [enI]; rw [if_neg (fun q => absurd (show bI (l k) = 0 by rw [← hlk]; exact c38) (by rw [q.1.1]; decide))] <;> rfl)
        | (refine V.eq (ih (k + 1) (some (.int (at7 S w k))) (some (.int 0)) (by omega) rfl rfl) rfl ?_ rfl rfl; rw [enI]; rw [if_neg (fun q => q.1.2.1 c44)] <;> rfl)
        | (refine V.eq (ih (k + 1) (some (.int (at7 S w k))) (some (.int 0)) (by omega) rfl rfl) rfl ?_ rfl rfl; rw [enI]; rw [if_neg (fun q => q.1.2.2 c50)] <;> rfl)
        | (refine V.eq (ih (k + 1) (some (.int (at7 S w k))) (some (.int 0)) (by omega) rfl rfl) rfl ?_ rfl rfl; rw [enI]; rw [if_pos ⟨⟨bI_n (by rw [← hlk]; exact c38), c44, c50⟩, Or.inl c68⟩] <;> rfl)
        | (refine V.eq (ih (k + 1) (some (.int (at7 S w k))) (some (.int 0)) (by omega) rfl rfl) rfl ?_ rfl rfl; rw [enI]; rw [if_pos ⟨⟨bI_n (by rw [← hlk]; exact c38), c44, c50⟩, Or.inr (by rw [if_pos c73]; exact Int32.not_le.mp c90)⟩] <;> rfl)
        | (refine V.eq (ih (k + 1) (some (.int (at7 S w k))) (some (.int 0)) (by omega) rfl rfl) rfl ?_ rfl rfl; rw [enI]; rw [if_neg (fun q => q.2.elim c68 (fun p => by rw [if_pos c73] at p; exact absurd c90 (Int32.not_le.mpr p)))] <;> rfl)
        | (refine V.eq (ih (k + 1) (some (.int (at7 S w k))) (some (.int 0)) (by omega) rfl rfl) rfl ?_ rfl rfl; rw [enI]; rw [if_pos ⟨⟨bI_n (by rw [← hlk]; exact c38), c44, c50⟩, Or.inr (by rw [if_neg c73]; exact Int32.not_le.mp c80)⟩] <;> rfl)
        | (refine V.eq (ih (k + 1) (some (.int (at7 S w k))) (some (.int 0)) (by omega) rfl rfl) rfl ?_ rfl rfl; rw [enI]; rw [if_neg (fun q => q.2.elim c68 (fun p => by rw [if_neg c73] at p; exact absurd c80 (Int32.not_le.mpr p)))] <;> rfl)
        | (refine V.eq (ih (k + 1) (some (.int (at7 S w k))) (some (.int 1)) (by omega) rfl rfl) rfl ?_ rfl rfl; rw [enI]; rw [if_neg (fun q => absurd (show bI (l k) = 0 by rw [← hlk]; exact c38) (by rw [q.1.1]; decide))] <;> rfl)
        | (refine V.eq (ih (k + 1) (some (.int (at7 S w k))) (some (.int 1)) (by omega) rfl rfl) rfl ?_ rfl rfl; rw [enI]; rw [if_neg (fun q => q.1.2.1 c44)] <;> rfl)
        | (refine V.eq (ih (k + 1) (some (.int (at7 S w k))) (some (.int 1)) (by omega) rfl rfl) rfl ?_ rfl rfl; rw [enI]; rw [if_neg (fun q => q.1.2.2 c50)] <;> rfl)
        | (refine V.eq (ih (k + 1) (some (.int (at7 S w k))) (some (.int 1)) (by omega) rfl rfl) rfl ?_ rfl rfl; rw [enI]; rw [if_pos ⟨⟨bI_n (by rw [← hlk]; exact c38), c44, c50⟩, Or.inl c68⟩] <;> rfl)
        | (refine V.eq (ih (k + 1) (some (.int (at7 S w k))) (some (.int 1)) (by omega) rfl rfl) rfl ?_ rfl rfl; rw [enI]; rw [if_pos ⟨⟨bI_n (by rw [← hlk]; exact c38), c44, c50⟩, Or.inr (by rw [if_pos c73]; exact Int32.not_le.mp c90)⟩] <;> rfl)
        | (refine V.eq (ih (k + 1) (some (.int (at7 S w k))) (some (.int 1)) (by omega) rfl rfl) rfl ?_ rfl rfl; rw [enI]; rw [if_neg (fun q => q.2.elim c68 (fun p => by rw [if_pos c73] at p; exact absurd c90 (Int32.not_le.mpr p)))] <;> rfl)
        | (refine V.eq (ih (k + 1) (some (.int (at7 S w k))) (some (.int 1)) (by omega) rfl rfl) rfl ?_ rfl rfl; rw [enI]; rw [if_pos ⟨⟨bI_n (by rw [← hlk]; exact c38), c44, c50⟩, Or.inr (by rw [if_neg c73]; exact Int32.not_le.mp c80)⟩] <;> rfl)
        | (refine V.eq (ih (k + 1) (some (.int (at7 S w k))) (some (.int 1)) (by omega) rfl rfl) rfl ?_ rfl rfl; rw [enI]; rw [if_neg (fun q => q.2.elim c68 (fun p => by rw [if_neg c73] at p; exact absurd c80 (Int32.not_le.mpr p)))] <;> rfl)
    · refine v_iload 41 dX4_end_41 rfl ?_
      refine v_iload_n 43 dX4_end_43 rfl rfl ?_
      refine v_icmp_lt (tgt := 57) 44 dX4_end_44 (by decide) (fun c44 => ?_) (fun c44 => ?_)
      · refine v_iconst (v := 0) 57 dX4_end_57 (by decide) ?_
        refine v_ist8 58 dX4_end_58 ?_
        refine v_iload 60 dX4_end_60 rfl ?_
        refine v_if_eq (tgt := 98) 62 dX4_end_62 (by decide) (fun c62 => ?_) (fun c62 => absurd (rfl) c62)
        refine v_iload 98 dX4_end_98 rfl ?_
        refine v_ist5 100 dX4_end_100 ?_
        refine v_inc6 (y := 1) 102 dX4_end_102 (by decide) ?_
        refine v_goto (tgt := 8) 105 dX4_end_105 (by decide) ?_
        rw [show nI k + 1 = nI (k + 1) from nI_1 k]
        first
          | (refine V.eq (ih (k + 1) (some (.int (at7 S w k))) (some (.int 0)) (by omega) rfl rfl) rfl ?_ rfl rfl; rw [enI]; rw [if_neg (fun q => absurd (show bI (l k) = 0 by rw [← hlk]; exact c38) (by rw [q.1.1]; decide))] <;> rfl)
          | (refine V.eq (ih (k + 1) (some (.int (at7 S w k))) (some (.int 0)) (by omega) rfl rfl) rfl ?_ rfl rfl; rw [enI]; rw [if_neg (fun q => q.1.2.1 c44)] <;> rfl)
          | (refine V.eq (ih (k + 1) (some (.int (at7 S w k))) (some (.int 0)) (by omega) rfl rfl) rfl ?_ rfl rfl; rw [enI]; rw [if_neg (fun q => q.1.2.2 c50)] <;> rfl)
          | (refine V.eq (ih (k + 1) (some (.int (at7 S w k))) (some (.int 0)) (by omega) rfl rfl) rfl ?_ rfl rfl; rw [enI]; rw [if_pos ⟨⟨bI_n (by rw [← hlk]; exact c38), c44, c50⟩, Or.inl c68⟩] <;> rfl)
          | (refine V.eq (ih (k + 1) (some (.int (at7 S w k))) (some (.int 0)) (by omega) rfl rfl) rfl ?_ rfl rfl; rw [enI]; rw [if_pos ⟨⟨bI_n (by rw [← hlk]; exact c38), c44, c50⟩, Or.inr (by rw [if_pos c73]; exact Int32.not_le.mp c90)⟩] <;> rfl)
          | (refine V.eq (ih (k + 1) (some (.int (at7 S w k))) (some (.int 0)) (by omega) rfl rfl) rfl ?_ rfl rfl; rw [enI]; rw [if_neg (fun q => q.2.elim c68 (fun p => by rw [if_pos c73] at p; exact absurd c90 (Int32.not_le.mpr p)))] <;> rfl)
          | (refine V.eq (ih (k + 1) (some (.int (at7 S w k))) (some (.int 0)) (by omega) rfl rfl) rfl ?_ rfl rfl; rw [enI]; rw [if_pos ⟨⟨bI_n (by rw [← hlk]; exact c38), c44, c50⟩, Or.inr (by rw [if_neg c73]; exact Int32.not_le.mp c80)⟩] <;> rfl)
          | (refine V.eq (ih (k + 1) (some (.int (at7 S w k))) (some (.int 0)) (by omega) rfl rfl) rfl ?_ rfl rfl; rw [enI]; rw [if_neg (fun q => q.2.elim c68 (fun p => by rw [if_neg c73] at p; exact absurd c80 (Int32.not_le.mpr p)))] <;> rfl)
          | (refine V.eq (ih (k + 1) (some (.int (at7 S w k))) (some (.int 1)) (by omega) rfl rfl) rfl ?_ rfl rfl; rw [enI]; rw [if_neg (fun q => absurd (show bI (l k) = 0 by rw [← hlk]; exact c38) (by rw [q.1.1]; decide))] <;> rfl)
          | (refine V.eq (ih (k + 1) (some (.int (at7 S w k))) (some (.int 1)) (by omega) rfl rfl) rfl ?_ rfl rfl; rw [enI]; rw [if_neg (fun q => q.1.2.1 c44)] <;> rfl)
          | (refine V.eq (ih (k + 1) (some (.int (at7 S w k))) (some (.int 1)) (by omega) rfl rfl) rfl ?_ rfl rfl; rw [enI]; rw [if_neg (fun q => q.1.2.2 c50)] <;> rfl)
          | (refine V.eq (ih (k + 1) (some (.int (at7 S w k))) (some (.int 1)) (by omega) rfl rfl) rfl ?_ rfl rfl; rw [enI]; rw [if_pos ⟨⟨bI_n (by rw [← hlk]; exact c38), c44, c50⟩, Or.inl c68⟩] <;> rfl)
          | (refine V.eq (ih (k + 1) (some (.int (at7 S w k))) (some (.int 1)) (by omega) rfl rfl) rfl ?_ rfl rfl; rw [enI]; rw [if_pos ⟨⟨bI_n (by rw [← hlk]; exact c38), c44, c50⟩, Or.inr (by rw [if_pos c73]; exact Int32.not_le.mp c90)⟩] <;> rfl)
          | (refine V.eq (ih (k + 1) (some (.int (at7 S w k))) (some (.int 1)) (by omega) rfl rfl) rfl ?_ rfl rfl; rw [enI]; rw [if_neg (fun q => q.2.elim c68 (fun p => by rw [if_pos c73] at p; exact absurd c90 (Int32.not_le.mpr p)))] <;> rfl)
          | (refine V.eq (ih (k + 1) (some (.int (at7 S w k))) (some (.int 1)) (by omega) rfl rfl) rfl ?_ rfl rfl; rw [enI]; rw [if_pos ⟨⟨bI_n (by rw [← hlk]; exact c38), c44, c50⟩, Or.inr (by rw [if_neg c73]; exact Int32.not_le.mp c80)⟩] <;> rfl)
          | (refine V.eq (ih (k + 1) (some (.int (at7 S w k))) (some (.int 1)) (by omega) rfl rfl) rfl ?_ rfl rfl; rw [enI]; rw [if_neg (fun q => q.2.elim c68 (fun p => by rw [if_neg c73] at p; exact absurd c80 (Int32.not_le.mpr p)))] <;> rfl)
      · refine v_iload 47 dX4_end_47 rfl ?_
        refine v_iload_n 49 dX4_end_49 rfl rfl ?_
        refine v_icmp_gt (tgt := 57) 50 dX4_end_50 (by decide) (fun c50 => ?_) (fun c50 => ?_)
        · refine v_iconst (v := 0) 57 dX4_end_57 (by decide) ?_
          refine v_ist8 58 dX4_end_58 ?_
          refine v_iload 60 dX4_end_60 rfl ?_
          refine v_if_eq (tgt := 98) 62 dX4_end_62 (by decide) (fun c62 => ?_) (fun c62 => absurd (rfl) c62)
          refine v_iload 98 dX4_end_98 rfl ?_
          refine v_ist5 100 dX4_end_100 ?_
          refine v_inc6 (y := 1) 102 dX4_end_102 (by decide) ?_
          refine v_goto (tgt := 8) 105 dX4_end_105 (by decide) ?_
          rw [show nI k + 1 = nI (k + 1) from nI_1 k]
          first
            | (refine V.eq (ih (k + 1) (some (.int (at7 S w k))) (some (.int 0)) (by omega) rfl rfl) rfl ?_ rfl rfl; rw [enI]; rw [if_neg (fun q => absurd (show bI (l k) = 0 by rw [← hlk]; exact c38) (by rw [q.1.1]; decide))] <;> rfl)
            | (refine V.eq (ih (k + 1) (some (.int (at7 S w k))) (some (.int 0)) (by omega) rfl rfl) rfl ?_ rfl rfl; rw [enI]; rw [if_neg (fun q => q.1.2.1 c44)] <;> rfl)
            | (refine V.eq (ih (k + 1) (some (.int (at7 S w k))) (some (.int 0)) (by omega) rfl rfl) rfl ?_ rfl rfl; rw [enI]; rw [if_neg (fun q => q.1.2.2 c50)] <;> rfl)
            | (refine V.eq (ih (k + 1) (some (.int (at7 S w k))) (some (.int 0)) (by omega) rfl rfl) rfl ?_ rfl rfl; rw [enI]; rw [if_pos ⟨⟨bI_n (by rw [← hlk]; exact c38), c44, c50⟩, Or.inl c68⟩] <;> rfl)
            | (refine V.eq (ih (k + 1) (some (.int (at7 S w k))) (some (.int 0)) (by omega) rfl rfl) rfl ?_ rfl rfl; rw [enI]; rw [if_pos ⟨⟨bI_n (by rw [← hlk]; exact c38), c44, c50⟩, Or.inr (by rw [if_pos c73]; exact Int32.not_le.mp c90)⟩] <;> rfl)
            | (refine V.eq (ih (k + 1) (some (.int (at7 S w k))) (some (.int 0)) (by omega) rfl rfl) rfl ?_ rfl rfl; rw [enI]; rw [if_neg (fun q => q.2.elim c68 (fun p => by rw [if_pos c73] at p; exact absurd c90 (Int32.not_le.mpr p)))] <;> rfl)
            | (refine V.eq (ih (k + 1) (some (.int (at7 S w k))) (some (.int 0)) (by omega) rfl rfl) rfl ?_ rfl rfl; rw [enI]; rw [if_pos ⟨⟨bI_n (by rw [← hlk]; exact c38), c44, c50⟩, Or.inr (by rw [if_neg c73]; exact Int32.not_le.mp c80)⟩] <;> rfl)
            | (refine V.eq (ih (k + 1) (some (.int (at7 S w k))) (some (.int 0)) (by omega) rfl rfl) rfl ?_ rfl rfl; rw [enI]; rw [if_neg (fun q => q.2.elim c68 (fun p => by rw [if_neg c73] at p; exact absurd c80 (Int32.not_le.mpr p)))] <;> rfl)
            | (refine V.eq (ih (k + 1) (some (.int (at7 S w k))) (some (.int 1)) (by omega) rfl rfl) rfl ?_ rfl rfl; rw [enI]; rw [if_neg (fun q => absurd (show bI (l k) = 0 by rw [← hlk]; exact c38) (by rw [q.1.1]; decide))] <;> rfl)
            | (refine V.eq (ih (k + 1) (some (.int (at7 S w k))) (some (.int 1)) (by omega) rfl rfl) rfl ?_ rfl rfl; rw [enI]; rw [if_neg (fun q => q.1.2.1 c44)] <;> rfl)
            | (refine V.eq (ih (k + 1) (some (.int (at7 S w k))) (some (.int 1)) (by omega) rfl rfl) rfl ?_ rfl rfl; rw [enI]; rw [if_neg (fun q => q.1.2.2 c50)] <;> rfl)
            | (refine V.eq (ih (k + 1) (some (.int (at7 S w k))) (some (.int 1)) (by omega) rfl rfl) rfl ?_ rfl rfl; rw [enI]; rw [if_pos ⟨⟨bI_n (by rw [← hlk]; exact c38), c44, c50⟩, Or.inl c68⟩] <;> rfl)
            | (refine V.eq (ih (k + 1) (some (.int (at7 S w k))) (some (.int 1)) (by omega) rfl rfl) rfl ?_ rfl rfl; rw [enI]; rw [if_pos ⟨⟨bI_n (by rw [← hlk]; exact c38), c44, c50⟩, Or.inr (by rw [if_pos c73]; exact Int32.not_le.mp c90)⟩] <;> rfl)
            | (refine V.eq (ih (k + 1) (some (.int (at7 S w k))) (some (.int 1)) (by omega) rfl rfl) rfl ?_ rfl rfl; rw [enI]; rw [if_neg (fun q => q.2.elim c68 (fun p => by rw [if_pos c73] at p; exact absurd c90 (Int32.not_le.mpr p)))] <;> rfl)
            | (refine V.eq (ih (k + 1) (some (.int (at7 S w k))) (some (.int 1)) (by omega) rfl rfl) rfl ?_ rfl rfl; rw [enI]; rw [if_pos ⟨⟨bI_n (by rw [← hlk]; exact c38), c44, c50⟩, Or.inr (by rw [if_neg c73]; exact Int32.not_le.mp c80)⟩] <;> rfl)
            | (refine V.eq (ih (k + 1) (some (.int (at7 S w k))) (some (.int 1)) (by omega) rfl rfl) rfl ?_ rfl rfl; rw [enI]; rw [if_neg (fun q => q.2.elim c68 (fun p => by rw [if_neg c73] at p; exact absurd c80 (Int32.not_le.mpr p)))] <;> rfl)
        · refine v_iconst (v := 1) 53 dX4_end_53 (by decide) ?_
          refine v_goto (tgt := 58) 54 dX4_end_54 (by decide) ?_
          refine v_ist8 58 dX4_end_58 ?_
          refine v_iload 60 dX4_end_60 rfl ?_
          refine v_if_eq (tgt := 98) 62 dX4_end_62 (by decide) (fun c62 => absurd c62 (by decide)) (fun c62 => ?_)
          refine v_iload 65 dX4_end_65 rfl ?_
          refine v_iload_n 67 dX4_end_67 rfl rfl ?_
          refine v_icmp_lt (tgt := 93) 68 dX4_end_68 (by decide) (fun c68 => ?_) (fun c68 => ?_)
          · refine v_iload 93 dX4_end_93 rfl ?_
            refine v_goto (tgt := 100) 95 dX4_end_95 (by decide) ?_
            refine v_ist5 100 dX4_end_100 ?_
            refine v_inc6 (y := 1) 102 dX4_end_102 (by decide) ?_
            refine v_goto (tgt := 8) 105 dX4_end_105 (by decide) ?_
            rw [show nI k + 1 = nI (k + 1) from nI_1 k]
            first
              | (refine V.eq (ih (k + 1) (some (.int (at7 S w k))) (some (.int 0)) (by omega) rfl rfl) rfl ?_ rfl rfl; rw [enI]; rw [if_neg (fun q => absurd (show bI (l k) = 0 by rw [← hlk]; exact c38) (by rw [q.1.1]; decide))] <;> rfl)
              | (refine V.eq (ih (k + 1) (some (.int (at7 S w k))) (some (.int 0)) (by omega) rfl rfl) rfl ?_ rfl rfl; rw [enI]; rw [if_neg (fun q => q.1.2.1 c44)] <;> rfl)
              | (refine V.eq (ih (k + 1) (some (.int (at7 S w k))) (some (.int 0)) (by omega) rfl rfl) rfl ?_ rfl rfl; rw [enI]; rw [if_neg (fun q => q.1.2.2 c50)] <;> rfl)
              | (refine V.eq (ih (k + 1) (some (.int (at7 S w k))) (some (.int 0)) (by omega) rfl rfl) rfl ?_ rfl rfl; rw [enI]; rw [if_pos ⟨⟨bI_n (by rw [← hlk]; exact c38), c44, c50⟩, Or.inl c68⟩] <;> rfl)
              | (refine V.eq (ih (k + 1) (some (.int (at7 S w k))) (some (.int 0)) (by omega) rfl rfl) rfl ?_ rfl rfl; rw [enI]; rw [if_pos ⟨⟨bI_n (by rw [← hlk]; exact c38), c44, c50⟩, Or.inr (by rw [if_pos c73]; exact Int32.not_le.mp c90)⟩] <;> rfl)
              | (refine V.eq (ih (k + 1) (some (.int (at7 S w k))) (some (.int 0)) (by omega) rfl rfl) rfl ?_ rfl rfl; rw [enI]; rw [if_neg (fun q => q.2.elim c68 (fun p => by rw [if_pos c73] at p; exact absurd c90 (Int32.not_le.mpr p)))] <;> rfl)
              | (refine V.eq (ih (k + 1) (some (.int (at7 S w k))) (some (.int 0)) (by omega) rfl rfl) rfl ?_ rfl rfl; rw [enI]; rw [if_pos ⟨⟨bI_n (by rw [← hlk]; exact c38), c44, c50⟩, Or.inr (by rw [if_neg c73]; exact Int32.not_le.mp c80)⟩] <;> rfl)
              | (refine V.eq (ih (k + 1) (some (.int (at7 S w k))) (some (.int 0)) (by omega) rfl rfl) rfl ?_ rfl rfl; rw [enI]; rw [if_neg (fun q => q.2.elim c68 (fun p => by rw [if_neg c73] at p; exact absurd c80 (Int32.not_le.mpr p)))] <;> rfl)
              | (refine V.eq (ih (k + 1) (some (.int (at7 S w k))) (some (.int 1)) (by omega) rfl rfl) rfl ?_ rfl rfl; rw [enI]; rw [if_neg (fun q => absurd (show bI (l k) = 0 by rw [← hlk]; exact c38) (by rw [q.1.1]; decide))] <;> rfl)
              | (refine V.eq (ih (k + 1) (some (.int (at7 S w k))) (some (.int 1)) (by omega) rfl rfl) rfl ?_ rfl rfl; rw [enI]; rw [if_neg (fun q => q.1.2.1 c44)] <;> rfl)
              | (refine V.eq (ih (k + 1) (some (.int (at7 S w k))) (some (.int 1)) (by omega) rfl rfl) rfl ?_ rfl rfl; rw [enI]; rw [if_neg (fun q => q.1.2.2 c50)] <;> rfl)
              | (refine V.eq (ih (k + 1) (some (.int (at7 S w k))) (some (.int 1)) (by omega) rfl rfl) rfl ?_ rfl rfl; rw [enI]; rw [if_pos ⟨⟨bI_n (by rw [← hlk]; exact c38), c44, c50⟩, Or.inl c68⟩] <;> rfl)
              | (refine V.eq (ih (k + 1) (some (.int (at7 S w k))) (some (.int 1)) (by omega) rfl rfl) rfl ?_ rfl rfl; rw [enI]; rw [if_pos ⟨⟨bI_n (by rw [← hlk]; exact c38), c44, c50⟩, Or.inr (by rw [if_pos c73]; exact Int32.not_le.mp c90)⟩] <;> rfl)
              | (refine V.eq (ih (k + 1) (some (.int (at7 S w k))) (some (.int 1)) (by omega) rfl rfl) rfl ?_ rfl rfl; rw [enI]; rw [if_neg (fun q => q.2.elim c68 (fun p => by rw [if_pos c73] at p; exact absurd c90 (Int32.not_le.mpr p)))] <;> rfl)
              | (refine V.eq (ih (k + 1) (some (.int (at7 S w k))) (some (.int 1)) (by omega) rfl rfl) rfl ?_ rfl rfl; rw [enI]; rw [if_pos ⟨⟨bI_n (by rw [← hlk]; exact c38), c44, c50⟩, Or.inr (by rw [if_neg c73]; exact Int32.not_le.mp c80)⟩] <;> rfl)
              | (refine V.eq (ih (k + 1) (some (.int (at7 S w k))) (some (.int 1)) (by omega) rfl rfl) rfl ?_ rfl rfl; rw [enI]; rw [if_neg (fun q => q.2.elim c68 (fun p => by rw [if_neg c73] at p; exact absurd c80 (Int32.not_le.mpr p)))] <;> rfl)
          · refine v_iload 71 dX4_end_71 rfl ?_
            refine v_if_eq (tgt := 86) 73 dX4_end_73 (by decide) (fun c73 => ?_) (fun c73 => ?_)
            · refine v_iload 86 dX4_end_86 rfl ?_
              refine v_iload 88 dX4_end_88 rfl ?_
              refine v_icmp_le (tgt := 98) 90 dX4_end_90 (by decide) (fun c90 => ?_) (fun c90 => ?_)
              · refine v_iload 98 dX4_end_98 rfl ?_
                refine v_ist5 100 dX4_end_100 ?_
                refine v_inc6 (y := 1) 102 dX4_end_102 (by decide) ?_
                refine v_goto (tgt := 8) 105 dX4_end_105 (by decide) ?_
                rw [show nI k + 1 = nI (k + 1) from nI_1 k]
                first
                  | (refine V.eq (ih (k + 1) (some (.int (at7 S w k))) (some (.int 0)) (by omega) rfl rfl) rfl ?_ rfl rfl; rw [enI]; rw [if_neg (fun q => absurd (show bI (l k) = 0 by rw [← hlk]; exact c38) (by rw [q.1.1]; decide))] <;> rfl)
                  | (refine V.eq (ih (k + 1) (some (.int (at7 S w k))) (some (.int 0)) (by omega) rfl rfl) rfl ?_ rfl rfl; rw [enI]; rw [if_neg (fun q => q.1.2.1 c44)] <;> rfl)
                  | (refine V.eq (ih (k + 1) (some (.int (at7 S w k))) (some (.int 0)) (by omega) rfl rfl) rfl ?_ rfl rfl; rw [enI]; rw [if_neg (fun q => q.1.2.2 c50)] <;> rfl)
                  | (refine V.eq (ih (k + 1) (some (.int (at7 S w k))) (some (.int 0)) (by omega) rfl rfl) rfl ?_ rfl rfl; rw [enI]; rw [if_pos ⟨⟨bI_n (by rw [← hlk]; exact c38), c44, c50⟩, Or.inl c68⟩] <;> rfl)
                  | (refine V.eq (ih (k + 1) (some (.int (at7 S w k))) (some (.int 0)) (by omega) rfl rfl) rfl ?_ rfl rfl; rw [enI]; rw [if_pos ⟨⟨bI_n (by rw [← hlk]; exact c38), c44, c50⟩, Or.inr (by rw [if_pos c73]; exact Int32.not_le.mp c90)⟩] <;> rfl)
                  | (refine V.eq (ih (k + 1) (some (.int (at7 S w k))) (some (.int 0)) (by omega) rfl rfl) rfl ?_ rfl rfl; rw [enI]; rw [if_neg (fun q => q.2.elim c68 (fun p => by rw [if_pos c73] at p; exact absurd c90 (Int32.not_le.mpr p)))] <;> rfl)
                  | (refine V.eq (ih (k + 1) (some (.int (at7 S w k))) (some (.int 0)) (by omega) rfl rfl) rfl ?_ rfl rfl; rw [enI]; rw [if_pos ⟨⟨bI_n (by rw [← hlk]; exact c38), c44, c50⟩, Or.inr (by rw [if_neg c73]; exact Int32.not_le.mp c80)⟩] <;> rfl)
                  | (refine V.eq (ih (k + 1) (some (.int (at7 S w k))) (some (.int 0)) (by omega) rfl rfl) rfl ?_ rfl rfl; rw [enI]; rw [if_neg (fun q => q.2.elim c68 (fun p => by rw [if_neg c73] at p; exact absurd c80 (Int32.not_le.mpr p)))] <;> rfl)
                  | (refine V.eq (ih (k + 1) (some (.int (at7 S w k))) (some (.int 1)) (by omega) rfl rfl) rfl ?_ rfl rfl; rw [enI]; rw [if_neg (fun q => absurd (show bI (l k) = 0 by rw [← hlk]; exact c38) (by rw [q.1.1]; decide))] <;> rfl)
                  | (refine V.eq (ih (k + 1) (some (.int (at7 S w k))) (some (.int 1)) (by omega) rfl rfl) rfl ?_ rfl rfl; rw [enI]; rw [if_neg (fun q => q.1.2.1 c44)] <;> rfl)
                  | (refine V.eq (ih (k + 1) (some (.int (at7 S w k))) (some (.int 1)) (by omega) rfl rfl) rfl ?_ rfl rfl; rw [enI]; rw [if_neg (fun q => q.1.2.2 c50)] <;> rfl)
                  | (refine V.eq (ih (k + 1) (some (.int (at7 S w k))) (some (.int 1)) (by omega) rfl rfl) rfl ?_ rfl rfl; rw [enI]; rw [if_pos ⟨⟨bI_n (by rw [← hlk]; exact c38), c44, c50⟩, Or.inl c68⟩] <;> rfl)
                  | (refine V.eq (ih (k + 1) (some (.int (at7 S w k))) (some (.int 1)) (by omega) rfl rfl) rfl ?_ rfl rfl; rw [enI]; rw [if_pos ⟨⟨bI_n (by rw [← hlk]; exact c38), c44, c50⟩, Or.inr (by rw [if_pos c73]; exact Int32.not_le.mp c90)⟩] <;> rfl)
                  | (refine V.eq (ih (k + 1) (some (.int (at7 S w k))) (some (.int 1)) (by omega) rfl rfl) rfl ?_ rfl rfl; rw [enI]; rw [if_neg (fun q => q.2.elim c68 (fun p => by rw [if_pos c73] at p; exact absurd c90 (Int32.not_le.mpr p)))] <;> rfl)
                  | (refine V.eq (ih (k + 1) (some (.int (at7 S w k))) (some (.int 1)) (by omega) rfl rfl) rfl ?_ rfl rfl; rw [enI]; rw [if_pos ⟨⟨bI_n (by rw [← hlk]; exact c38), c44, c50⟩, Or.inr (by rw [if_neg c73]; exact Int32.not_le.mp c80)⟩] <;> rfl)
                  | (refine V.eq (ih (k + 1) (some (.int (at7 S w k))) (some (.int 1)) (by omega) rfl rfl) rfl ?_ rfl rfl; rw [enI]; rw [if_neg (fun q => q.2.elim c68 (fun p => by rw [if_neg c73] at p; exact absurd c80 (Int32.not_le.mpr p)))] <;> rfl)
              · refine v_iload 93 dX4_end_93 rfl ?_
                refine v_goto (tgt := 100) 95 dX4_end_95 (by decide) ?_
                refine v_ist5 100 dX4_end_100 ?_
                refine v_inc6 (y := 1) 102 dX4_end_102 (by decide) ?_
                refine v_goto (tgt := 8) 105 dX4_end_105 (by decide) ?_
                rw [show nI k + 1 = nI (k + 1) from nI_1 k]
                first
                  | (refine V.eq (ih (k + 1) (some (.int (at7 S w k))) (some (.int 0)) (by omega) rfl rfl) rfl ?_ rfl rfl; rw [enI]; rw [if_neg (fun q => absurd (show bI (l k) = 0 by rw [← hlk]; exact c38) (by rw [q.1.1]; decide))] <;> rfl)
                  | (refine V.eq (ih (k + 1) (some (.int (at7 S w k))) (some (.int 0)) (by omega) rfl rfl) rfl ?_ rfl rfl; rw [enI]; rw [if_neg (fun q => q.1.2.1 c44)] <;> rfl)
                  | (refine V.eq (ih (k + 1) (some (.int (at7 S w k))) (some (.int 0)) (by omega) rfl rfl) rfl ?_ rfl rfl; rw [enI]; rw [if_neg (fun q => q.1.2.2 c50)] <;> rfl)
                  | (refine V.eq (ih (k + 1) (some (.int (at7 S w k))) (some (.int 0)) (by omega) rfl rfl) rfl ?_ rfl rfl; rw [enI]; rw [if_pos ⟨⟨bI_n (by rw [← hlk]; exact c38), c44, c50⟩, Or.inl c68⟩] <;> rfl)
                  | (refine V.eq (ih (k + 1) (some (.int (at7 S w k))) (some (.int 0)) (by omega) rfl rfl) rfl ?_ rfl rfl; rw [enI]; rw [if_pos ⟨⟨bI_n (by rw [← hlk]; exact c38), c44, c50⟩, Or.inr (by rw [if_pos c73]; exact Int32.not_le.mp c90)⟩] <;> rfl)
                  | (refine V.eq (ih (k + 1) (some (.int (at7 S w k))) (some (.int 0)) (by omega) rfl rfl) rfl ?_ rfl rfl; rw [enI]; rw [if_neg (fun q => q.2.elim c68 (fun p => by rw [if_pos c73] at p; exact absurd c90 (Int32.not_le.mpr p)))] <;> rfl)
                  | (refine V.eq (ih (k + 1) (some (.int (at7 S w k))) (some (.int 0)) (by omega) rfl rfl) rfl ?_ rfl rfl; rw [enI]; rw [if_pos ⟨⟨bI_n (by rw [← hlk]; exact c38), c44, c50⟩, Or.inr (by rw [if_neg c73]; exact Int32.not_le.mp c80)⟩] <;> rfl)
                  | (refine V.eq (ih (k + 1) (some (.int (at7 S w k))) (some (.int 0)) (by omega) rfl rfl) rfl ?_ rfl rfl; rw [enI]; rw [if_neg (fun q => q.2.elim c68 (fun p => by rw [if_neg c73] at p; exact absurd c80 (Int32.not_le.mpr p)))] <;> rfl)
                  | (refine V.eq (ih (k + 1) (some (.int (at7 S w k))) (some (.int 1)) (by omega) rfl rfl) rfl ?_ rfl rfl; rw [enI]; rw [if_neg (fun q => absurd (show bI (l k) = 0 by rw [← hlk]; exact c38) (by rw [q.1.1]; decide))] <;> rfl)
                  | (refine V.eq (ih (k + 1) (some (.int (at7 S w k))) (some (.int 1)) (by omega) rfl rfl) rfl ?_ rfl rfl; rw [enI]; rw [if_neg (fun q => q.1.2.1 c44)] <;> rfl)
                  | (refine V.eq (ih (k + 1) (some (.int (at7 S w k))) (some (.int 1)) (by omega) rfl rfl) rfl ?_ rfl rfl; rw [enI]; rw [if_neg (fun q => q.1.2.2 c50)] <;> rfl)
                  | (refine V.eq (ih (k + 1) (some (.int (at7 S w k))) (some (.int 1)) (by omega) rfl rfl) rfl ?_ rfl rfl; rw [enI]; rw [if_pos ⟨⟨bI_n (by rw [← hlk]; exact c38), c44, c50⟩, Or.inl c68⟩] <;> rfl)
                  | (refine V.eq (ih (k + 1) (some (.int (at7 S w k))) (some (.int 1)) (by omega) rfl rfl) rfl ?_ rfl rfl; rw [enI]; rw [if_pos ⟨⟨bI_n (by rw [← hlk]; exact c38), c44, c50⟩, Or.inr (by rw [if_pos c73]; exact Int32.not_le.mp c90)⟩] <;> rfl)
                  | (refine V.eq (ih (k + 1) (some (.int (at7 S w k))) (some (.int 1)) (by omega) rfl rfl) rfl ?_ rfl rfl; rw [enI]; rw [if_neg (fun q => q.2.elim c68 (fun p => by rw [if_pos c73] at p; exact absurd c90 (Int32.not_le.mpr p)))] <;> rfl)
                  | (refine V.eq (ih (k + 1) (some (.int (at7 S w k))) (some (.int 1)) (by omega) rfl rfl) rfl ?_ rfl rfl; rw [enI]; rw [if_pos ⟨⟨bI_n (by rw [← hlk]; exact c38), c44, c50⟩, Or.inr (by rw [if_neg c73]; exact Int32.not_le.mp c80)⟩] <;> rfl)
                  | (refine V.eq (ih (k + 1) (some (.int (at7 S w k))) (some (.int 1)) (by omega) rfl rfl) rfl ?_ rfl rfl; rw [enI]; rw [if_neg (fun q => q.2.elim c68 (fun p => by rw [if_neg c73] at p; exact absurd c80 (Int32.not_le.mpr p)))] <;> rfl)
            · refine v_iload 76 dX4_end_76 rfl ?_
              refine v_iload 78 dX4_end_78 rfl ?_
              refine v_icmp_ge (tgt := 98) 80 dX4_end_80 (by decide) (fun c80 => ?_) (fun c80 => ?_)
              · refine v_iload 98 dX4_end_98 rfl ?_
                refine v_ist5 100 dX4_end_100 ?_
                refine v_inc6 (y := 1) 102 dX4_end_102 (by decide) ?_
                refine v_goto (tgt := 8) 105 dX4_end_105 (by decide) ?_
                rw [show nI k + 1 = nI (k + 1) from nI_1 k]
                first
                  | (refine V.eq (ih (k + 1) (some (.int (at7 S w k))) (some (.int 0)) (by omega) rfl rfl) rfl ?_ rfl rfl; rw [enI]; rw [if_neg (fun q => absurd (show bI (l k) = 0 by rw [← hlk]; exact c38) (by rw [q.1.1]; decide))] <;> rfl)
                  | (refine V.eq (ih (k + 1) (some (.int (at7 S w k))) (some (.int 0)) (by omega) rfl rfl) rfl ?_ rfl rfl; rw [enI]; rw [if_neg (fun q => q.1.2.1 c44)] <;> rfl)
                  | (refine V.eq (ih (k + 1) (some (.int (at7 S w k))) (some (.int 0)) (by omega) rfl rfl) rfl ?_ rfl rfl; rw [enI]; rw [if_neg (fun q => q.1.2.2 c50)] <;> rfl)
                  | (refine V.eq (ih (k + 1) (some (.int (at7 S w k))) (some (.int 0)) (by omega) rfl rfl) rfl ?_ rfl rfl; rw [enI]; rw [if_pos ⟨⟨bI_n (by rw [← hlk]; exact c38), c44, c50⟩, Or.inl c68⟩] <;> rfl)
                  | (refine V.eq (ih (k + 1) (some (.int (at7 S w k))) (some (.int 0)) (by omega) rfl rfl) rfl ?_ rfl rfl; rw [enI]; rw [if_pos ⟨⟨bI_n (by rw [← hlk]; exact c38), c44, c50⟩, Or.inr (by rw [if_pos c73]; exact Int32.not_le.mp c90)⟩] <;> rfl)
                  | (refine V.eq (ih (k + 1) (some (.int (at7 S w k))) (some (.int 0)) (by omega) rfl rfl) rfl ?_ rfl rfl; rw [enI]; rw [if_neg (fun q => q.2.elim c68 (fun p => by rw [if_pos c73] at p; exact absurd c90 (Int32.not_le.mpr p)))] <;> rfl)
                  | (refine V.eq (ih (k + 1) (some (.int (at7 S w k))) (some (.int 0)) (by omega) rfl rfl) rfl ?_ rfl rfl; rw [enI]; rw [if_pos ⟨⟨bI_n (by rw [← hlk]; exact c38), c44, c50⟩, Or.inr (by rw [if_neg c73]; exact Int32.not_le.mp c80)⟩] <;> rfl)
                  | (refine V.eq (ih (k + 1) (some (.int (at7 S w k))) (some (.int 0)) (by omega) rfl rfl) rfl ?_ rfl rfl; rw [enI]; rw [if_neg (fun q => q.2.elim c68 (fun p => by rw [if_neg c73] at p; exact absurd c80 (Int32.not_le.mpr p)))] <;> rfl)
                  | (refine V.eq (ih (k + 1) (some (.int (at7 S w k))) (some (.int 1)) (by omega) rfl rfl) rfl ?_ rfl rfl; rw [enI]; rw [if_neg (fun q => absurd (show bI (l k) = 0 by rw [← hlk]; exact c38) (by rw [q.1.1]; decide))] <;> rfl)
                  | (refine V.eq (ih (k + 1) (some (.int (at7 S w k))) (some (.int 1)) (by omega) rfl rfl) rfl ?_ rfl rfl; rw [enI]; rw [if_neg (fun q => q.1.2.1 c44)] <;> rfl)
                  | (refine V.eq (ih (k + 1) (some (.int (at7 S w k))) (some (.int 1)) (by omega) rfl rfl) rfl ?_ rfl rfl; rw [enI]; rw [if_neg (fun q => q.1.2.2 c50)] <;> rfl)
                  | (refine V.eq (ih (k + 1) (some (.int (at7 S w k))) (some (.int 1)) (by omega) rfl rfl) rfl ?_ rfl rfl; rw [enI]; rw [if_pos ⟨⟨bI_n (by rw [← hlk]; exact c38), c44, c50⟩, Or.inl c68⟩] <;> rfl)
                  | (refine V.eq (ih (k + 1) (some (.int (at7 S w k))) (some (.int 1)) (by omega) rfl rfl) rfl ?_ rfl rfl; rw [enI]; rw [if_pos ⟨⟨bI_n (by rw [← hlk]; exact c38), c44, c50⟩, Or.inr (by rw [if_pos c73]; exact Int32.not_le.mp c90)⟩] <;> rfl)
                  | (refine V.eq (ih (k + 1) (some (.int (at7 S w k))) (some (.int 1)) (by omega) rfl rfl) rfl ?_ rfl rfl; rw [enI]; rw [if_neg (fun q => q.2.elim c68 (fun p => by rw [if_pos c73] at p; exact absurd c90 (Int32.not_le.mpr p)))] <;> rfl)
                  | (refine V.eq (ih (k + 1) (some (.int (at7 S w k))) (some (.int 1)) (by omega) rfl rfl) rfl ?_ rfl rfl; rw [enI]; rw [if_pos ⟨⟨bI_n (by rw [← hlk]; exact c38), c44, c50⟩, Or.inr (by rw [if_neg c73]; exact Int32.not_le.mp c80)⟩] <;> rfl)
                  | (refine V.eq (ih (k + 1) (some (.int (at7 S w k))) (some (.int 1)) (by omega) rfl rfl) rfl ?_ rfl rfl; rw [enI]; rw [if_neg (fun q => q.2.elim c68 (fun p => by rw [if_neg c73] at p; exact absurd c80 (Int32.not_le.mpr p)))] <;> rfl)
              · refine v_goto (tgt := 93) 83 dX4_end_83 (by decide) ?_
                refine v_iload 93 dX4_end_93 rfl ?_
                refine v_goto (tgt := 100) 95 dX4_end_95 (by decide) ?_
                refine v_ist5 100 dX4_end_100 ?_
                refine v_inc6 (y := 1) 102 dX4_end_102 (by decide) ?_
                refine v_goto (tgt := 8) 105 dX4_end_105 (by decide) ?_
                rw [show nI k + 1 = nI (k + 1) from nI_1 k]
                first
                  | (refine V.eq (ih (k + 1) (some (.int (at7 S w k))) (some (.int 0)) (by omega) rfl rfl) rfl ?_ rfl rfl; rw [enI]; rw [if_neg (fun q => absurd (show bI (l k) = 0 by rw [← hlk]; exact c38) (by rw [q.1.1]; decide))] <;> rfl)
                  | (refine V.eq (ih (k + 1) (some (.int (at7 S w k))) (some (.int 0)) (by omega) rfl rfl) rfl ?_ rfl rfl; rw [enI]; rw [if_neg (fun q => q.1.2.1 c44)] <;> rfl)
                  | (refine V.eq (ih (k + 1) (some (.int (at7 S w k))) (some (.int 0)) (by omega) rfl rfl) rfl ?_ rfl rfl; rw [enI]; rw [if_neg (fun q => q.1.2.2 c50)] <;> rfl)
                  | (refine V.eq (ih (k + 1) (some (.int (at7 S w k))) (some (.int 0)) (by omega) rfl rfl) rfl ?_ rfl rfl; rw [enI]; rw [if_pos ⟨⟨bI_n (by rw [← hlk]; exact c38), c44, c50⟩, Or.inl c68⟩] <;> rfl)
                  | (refine V.eq (ih (k + 1) (some (.int (at7 S w k))) (some (.int 0)) (by omega) rfl rfl) rfl ?_ rfl rfl; rw [enI]; rw [if_pos ⟨⟨bI_n (by rw [← hlk]; exact c38), c44, c50⟩, Or.inr (by rw [if_pos c73]; exact Int32.not_le.mp c90)⟩] <;> rfl)
                  | (refine V.eq (ih (k + 1) (some (.int (at7 S w k))) (some (.int 0)) (by omega) rfl rfl) rfl ?_ rfl rfl; rw [enI]; rw [if_neg (fun q => q.2.elim c68 (fun p => by rw [if_pos c73] at p; exact absurd c90 (Int32.not_le.mpr p)))] <;> rfl)
                  | (refine V.eq (ih (k + 1) (some (.int (at7 S w k))) (some (.int 0)) (by omega) rfl rfl) rfl ?_ rfl rfl; rw [enI]; rw [if_pos ⟨⟨bI_n (by rw [← hlk]; exact c38), c44, c50⟩, Or.inr (by rw [if_neg c73]; exact Int32.not_le.mp c80)⟩] <;> rfl)
                  | (refine V.eq (ih (k + 1) (some (.int (at7 S w k))) (some (.int 0)) (by omega) rfl rfl) rfl ?_ rfl rfl; rw [enI]; rw [if_neg (fun q => q.2.elim c68 (fun p => by rw [if_neg c73] at p; exact absurd c80 (Int32.not_le.mpr p)))] <;> rfl)
                  | (refine V.eq (ih (k + 1) (some (.int (at7 S w k))) (some (.int 1)) (by omega) rfl rfl) rfl ?_ rfl rfl; rw [enI]; rw [if_neg (fun q => absurd (show bI (l k) = 0 by rw [← hlk]; exact c38) (by rw [q.1.1]; decide))] <;> rfl)
                  | (refine V.eq (ih (k + 1) (some (.int (at7 S w k))) (some (.int 1)) (by omega) rfl rfl) rfl ?_ rfl rfl; rw [enI]; rw [if_neg (fun q => q.1.2.1 c44)] <;> rfl)
                  | (refine V.eq (ih (k + 1) (some (.int (at7 S w k))) (some (.int 1)) (by omega) rfl rfl) rfl ?_ rfl rfl; rw [enI]; rw [if_neg (fun q => q.1.2.2 c50)] <;> rfl)
                  | (refine V.eq (ih (k + 1) (some (.int (at7 S w k))) (some (.int 1)) (by omega) rfl rfl) rfl ?_ rfl rfl; rw [enI]; rw [if_pos ⟨⟨bI_n (by rw [← hlk]; exact c38), c44, c50⟩, Or.inl c68⟩] <;> rfl)
                  | (refine V.eq (ih (k + 1) (some (.int (at7 S w k))) (some (.int 1)) (by omega) rfl rfl) rfl ?_ rfl rfl; rw [enI]; rw [if_pos ⟨⟨bI_n (by rw [← hlk]; exact c38), c44, c50⟩, Or.inr (by rw [if_pos c73]; exact Int32.not_le.mp c90)⟩] <;> rfl)
                  | (refine V.eq (ih (k + 1) (some (.int (at7 S w k))) (some (.int 1)) (by omega) rfl rfl) rfl ?_ rfl rfl; rw [enI]; rw [if_neg (fun q => q.2.elim c68 (fun p => by rw [if_pos c73] at p; exact absurd c90 (Int32.not_le.mpr p)))] <;> rfl)
                  | (refine V.eq (ih (k + 1) (some (.int (at7 S w k))) (some (.int 1)) (by omega) rfl rfl) rfl ?_ rfl rfl; rw [enI]; rw [if_pos ⟨⟨bI_n (by rw [← hlk]; exact c38), c44, c50⟩, Or.inr (by rw [if_neg c73]; exact Int32.not_le.mp c80)⟩] <;> rfl)
                  | (refine V.eq (ih (k + 1) (some (.int (at7 S w k))) (some (.int 1)) (by omega) rfl rfl) rfl ?_ rfl rfl; rw [enI]; rw [if_neg (fun q => q.2.elim c68 (fun p => by rw [if_neg c73] at p; exact absurd c80 (Int32.not_le.mpr p)))] <;> rfl)
set_option maxHeartbeats 4000000 in
set_option maxRecDepth 100000 in
theorem ct_end {K : KT} {h : AH} {mo : Nat} {ad : Nat → Nat} {S : MS} {l : Nat → Bool} {w F : Nat} {lo hi le : Int32} (hds : mDis mo ad) (hF : S.1 1 = nI F) (hF2 : F ≤ 32) (hw : w < 7) (hl : lRep S l F) : Ct K mX4_end 0 0 [.ref mo, .int (nI w), .int lo, .int hi, .int le] (mPut h mo ad S) (fun r h' => r = some (.int (enI l (at7 S w) lo hi le F)) ∧ h' = mPut h mo ad S) noX := by
  refine ct_of (by decide +kernel) rfl (Nat.le_of_ble_eq_true rfl) rfl ?_
  refine v_iload_n 0 dX4_end_0 rfl rfl ?_
  refine v_iconst (v := 1) 1 dX4_end_1 (by decide) ?_
  refine v_isub 2 dX4_end_2 ?_
  refine v_ist5 3 dX4_end_3 ?_
  refine v_iconst (v := 0) 5 dX4_end_5 (by decide) ?_
  refine v_ist6 6 dX4_end_6 ?_
  exact V.eq (lp_end (S := S) (l := l) (w := w) (F := F) hds hF hF2 hw hl ⟨rfl, rfl⟩ F 0 none none (by omega) rfl rfl) rfl rfl rfl rfl

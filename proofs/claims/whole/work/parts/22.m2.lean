/-- the last place below n at which f is x, or -1 -/
def lastIx (f : Nat → Int32) (x : Int32) : Nat → Int32
  | 0 => -1
  | n + 1 => if f n = x then nI n else lastIx f x n
set_option maxHeartbeats 4000000 in
set_option maxRecDepth 100000 in
theorem lp_fontOf {K : KT} {h : AH} {mo : Nat} {ad : Nat → Nat} {S : MS} {x : Int32} {F : Nat} {Q : QR} {X : QX} (hds : mDis mo ad) (hF : S.1 1 = nI F) (hF2 : F ≤ 33) (hq : Q (some (.int (lastIx (S.2 2) x F))) (mPut h mo ad S)) : ∀ n k : Nat, k + n = F → V K mX4_fontOf 4 [some (.ref mo), some (.int x), some (.int (lastIx (S.2 2) x k)), some (.int (nI k))] [] (mPut h mo ad S) 0 0 Q X := by
  intro n
  induction n with
  | zero =>
    intro k hk
    have hkF : k = F := by omega
    subst hkF
    refine v_iload_n 4 dX4_fontOf_4 rfl rfl ?_
    refine v_aload_n 5 dX4_fontOf_5 rfl rfl ?_
    refine v_getf 6 dX4_fontOf_6 fl_X4_66 mPut_o rfl ?_
    refine v_icmp_ge (tgt := 34) 9 dX4_fontOf_9 (by decide) (fun c9 => ?_) (fun c9 => absurd (by rw [hF]; exact nI_le (Nat.le_refl _) (by omega)) c9)
    refine v_iload_n 34 dX4_fontOf_34 rfl rfl ?_
    refine v_iret 35 dX4_fontOf_35 rfl rfl ?_
    exact hq
  | succ n ih =>
    intro k hk
    refine v_iload_n 4 dX4_fontOf_4 rfl rfl ?_
    refine v_aload_n 5 dX4_fontOf_5 rfl rfl ?_
    refine v_getf 6 dX4_fontOf_6 fl_X4_66 mPut_o rfl ?_
    refine v_icmp_ge (tgt := 34) 9 dX4_fontOf_9 (by decide) (fun c9 => absurd c9 (by rw [hF]; exact nI_ge (by omega) (by omega))) (fun c9 => ?_)
    refine v_aload_n 12 dX4_fontOf_12 rfl rfl ?_
    refine v_getf 13 dX4_fontOf_13 fl_X4_7 mPut_o rfl ?_
    refine v_iload_n 16 dX4_fontOf_16 rfl rfl ?_
    refine m_ild 17 2 dX4_fontOf_17 hds (vp_in_nI (N := 33) (by omega) (by decide)) ?_
    refine v_iload_n 18 dX4_fontOf_18 rfl rfl ?_
    refine v_icmp_ne (tgt := 26) 19 dX4_fontOf_19 (by decide) (fun c19 => ?_) (fun c19 => ?_)
    · refine v_iload_n 26 dX4_fontOf_26 rfl rfl ?_
      refine v_ist2 27 dX4_fontOf_27 ?_
      refine v_inc3 (y := 1) 28 dX4_fontOf_28 (by decide) ?_
      refine v_goto (tgt := 4) 31 dX4_fontOf_31 (by decide) ?_
      refine V.eq (ih (k + 1) (by omega)) rfl ?_ rfl rfl
      rw [nI_clamp (by omega)] at c19
      simp [lastIx, nI_1, c19]
    · refine v_iload_n 22 dX4_fontOf_22 rfl rfl ?_
      refine v_goto (tgt := 27) 23 dX4_fontOf_23 (by decide) ?_
      refine v_ist2 27 dX4_fontOf_27 ?_
      refine v_inc3 (y := 1) 28 dX4_fontOf_28 (by decide) ?_
      refine v_goto (tgt := 4) 31 dX4_fontOf_31 (by decide) ?_
      refine V.eq (ih (k + 1) (by omega)) rfl ?_ rfl rfl
      rw [nI_clamp (by omega)] at c19
      simp [lastIx, nI_1, c19]
set_option maxHeartbeats 4000000 in
set_option maxRecDepth 100000 in
theorem ct_fontOf {K : KT} {h : AH} {mo : Nat} {ad : Nat → Nat} {S : MS} {x : Int32} {F : Nat} (hds : mDis mo ad) (hF : S.1 1 = nI F) (hF2 : F ≤ 33) : Ct K mX4_fontOf 0 0 [.ref mo, .int x] (mPut h mo ad S) (fun r h' => r = some (.int (lastIx (S.2 2) x F)) ∧ h' = mPut h mo ad S) noX := by
  refine ct_of (by decide +kernel) rfl (Nat.le_of_ble_eq_true rfl) rfl ?_
  refine v_iconst (v := -1) 0 dX4_fontOf_0 (by decide) ?_
  refine v_ist2 1 dX4_fontOf_1 ?_
  refine v_iconst (v := 0) 2 dX4_fontOf_2 (by decide) ?_
  refine v_ist3 3 dX4_fontOf_3 ?_
  exact lp_fontOf hds hF hF2 ⟨rfl, rfl⟩ F 0 (by omega)
theorem m7 (k : Nat) : (7 : Int32) * nI k = nI (7 * k) := pk_mul 7 k
theorem m7a (k j : Nat) : nI (7 * k) + nI j = nI (7 * k + j) := nI_add _ _
/-- the bytes of glyph k -/
def gB (S : MS) (k : Nat) : Int32 := S.2 6 (7 * k + 5) * ((S.2 6 (7 * k + 4) + 7) / 8)
/-- .. of the glyphs below n -/
def gSt (S : MS) : Nat → Int32
  | 0 => 0
  | n + 1 => gSt S n + gB S n
def lastG (f : Nat → Int32) (x c : Int32) : Nat → Int32
  | 0 => -1
  | n + 1 => if f (7 * n) = x ∧ f (7 * n + 1) = c then nI n else lastG f x c n
def cntG (f : Nat → Int32) (x : Int32) : Nat → Int32
  | 0 => 0
  | n + 1 => cntG f x n + (if f (7 * n) = x then 1 else 0)
theorem ct_bytesN {K : KT} {h : AH} {mo : Nat} {ad : Nat → Nat} {S : MS} {g : Nat} (hds : mDis mo ad) (hg : g ≤ 256) : Ct K mX4_bytesOf 0 0 [.ref mo, .int (nI g)] (mPut h mo ad S) (fun r h' => r = some (.int (gB S g)) ∧ h' = mPut h mo ad S) noX := by
  have e5 : (7 : Int32) * nI g + 5 = nI (7 * g + 5) := by rw [m7]; exact m7a g 5
  have e4 : (7 : Int32) * nI g + 4 = nI (7 * g + 4) := by rw [m7]; exact m7a g 4
  have hc := ct_bytesOf (K := K) (h := h) (S := S) (g := nI g) hds (by rw [e5]; exact vp_in_nI (by omega) (by decide)) (by rw [e4]; exact vp_in_nI (by omega) (by decide))
  rw [e5, e4, nI_clamp (by omega), nI_clamp (by omega)] at hc
  exact hc
set_option maxHeartbeats 4000000 in
set_option maxRecDepth 100000 in
theorem lp_startOf {K : KT} {h : AH} {mo : Nat} {ad : Nat → Nat} {S : MS} {G : Nat} {Q : QR} {X : QX} (hds : mDis mo ad) (hG : G ≤ 256) (hq : Q (some (.int (gSt S G))) (mPut h mo ad S)) : ∀ n k : Nat, k + n = G → V K mX4_startOf 4 [some (.ref mo), some (.int (nI G)), some (.int (gSt S k)), some (.int (nI k))] [] (mPut h mo ad S) 0 0 Q X := by
  intro n
  induction n with
  | zero =>
    intro k hk
    have hkF : k = G := by omega
    subst hkF
    refine v_iload_n 4 dX4_startOf_4 rfl rfl ?_
    refine v_iload_n 5 dX4_startOf_5 rfl rfl ?_
    refine v_icmp_ge (tgt := 23) 6 dX4_startOf_6 (by decide) (fun c6 => ?_) (fun c6 => absurd (nI_le (Nat.le_refl _) (by omega)) c6)
    refine v_iload_n 23 dX4_startOf_23 rfl rfl ?_
    refine v_iret 24 dX4_startOf_24 rfl rfl ?_
    exact hq
  | succ n ih =>
    intro k hk
    refine v_iload_n 4 dX4_startOf_4 rfl rfl ?_
    refine v_iload_n 5 dX4_startOf_5 rfl rfl ?_
    refine v_icmp_ge (tgt := 23) 6 dX4_startOf_6 (by decide) (fun c6 => absurd c6 (nI_ge (by omega) (by omega))) (fun c6 => ?_)
    refine v_iload_n 9 dX4_startOf_9 rfl rfl ?_
    refine v_aload_n 10 dX4_startOf_10 rfl rfl ?_
    refine v_iload_n 11 dX4_startOf_11 rfl rfl ?_
    refine m_call 12 [.int (nI k)] dX4_startOf_12 cv_X4_69 (ct_bytesN hds (by omega)) (fun r h' hq' => ?_)
    obtain ⟨rfl, rfl⟩ := hq'
    refine v_iadd 15 dX4_startOf_15 ?_
    refine v_ist2 16 dX4_startOf_16 ?_
    refine v_inc3 (y := 1) 17 dX4_startOf_17 (by decide) ?_
    refine v_goto (tgt := 4) 20 dX4_startOf_20 (by decide) ?_
    exact V.eq (ih (k + 1) (by omega)) rfl (by simp [gSt, nI_1]) rfl rfl
set_option maxHeartbeats 4000000 in
set_option maxRecDepth 100000 in
theorem ct_startOf {K : KT} {h : AH} {mo : Nat} {ad : Nat → Nat} {S : MS} {G : Nat} (hds : mDis mo ad) (hG : G ≤ 256) : Ct K mX4_startOf 0 0 [.ref mo, .int (nI G)] (mPut h mo ad S) (fun r h' => r = some (.int (gSt S G)) ∧ h' = mPut h mo ad S) noX := by
  refine ct_of (by decide +kernel) rfl (Nat.le_of_ble_eq_true rfl) rfl ?_
  refine v_iconst (v := 0) 0 dX4_startOf_0 (by decide) ?_
  refine v_ist2 1 dX4_startOf_1 ?_
  refine v_iconst (v := 0) 2 dX4_startOf_2 (by decide) ?_
  refine v_ist3 3 dX4_startOf_3 ?_
  exact lp_startOf hds hG ⟨rfl, rfl⟩ G 0 (by omega)
set_option maxHeartbeats 4000000 in
set_option maxRecDepth 100000 in
theorem lp_glyphOf {K : KT} {h : AH} {mo : Nat} {ad : Nat → Nat} {S : MS} {G : Nat} {x c : Int32} {Q : QR} {X : QX} (hds : mDis mo ad) (hF : S.1 5 = nI G) (hG : G ≤ 256) (hq : Q (some (.int (lastG (S.2 6) x c G))) (mPut h mo ad S)) : ∀ n k : Nat, k + n = G → V K mX4_glyphOf 5 [some (.ref mo), some (.int x), some (.int c), some (.int (lastG (S.2 6) x c k)), some (.int (nI k))] [] (mPut h mo ad S) 0 0 Q X := by
  intro n
  induction n with
  | zero =>
    intro k hk
    have hkF : k = G := by omega
    subst hkF
    refine v_iload 5 dX4_glyphOf_5 rfl ?_
    refine v_aload_n 7 dX4_glyphOf_7 rfl rfl ?_
    refine v_getf 8 dX4_glyphOf_8 fl_X4_73 mPut_o rfl ?_
    refine v_icmp_ge (tgt := 57) 11 dX4_glyphOf_11 (by decide) (fun c11 => ?_) (fun c11 => absurd (by rw [hF]; exact nI_le (Nat.le_refl _) (by omega)) c11)
    refine v_iload_n 57 dX4_glyphOf_57 rfl rfl ?_
    refine v_iret 58 dX4_glyphOf_58 rfl rfl ?_
    exact hq
  | succ n ih =>
    intro k hk
    refine v_iload 5 dX4_glyphOf_5 rfl ?_
    refine v_aload_n 7 dX4_glyphOf_7 rfl rfl ?_
    refine v_getf 8 dX4_glyphOf_8 fl_X4_73 mPut_o rfl ?_
    refine v_icmp_ge (tgt := 57) 11 dX4_glyphOf_11 (by decide) (fun c11 => absurd c11 (by rw [hF]; exact nI_ge (by omega) (by omega))) (fun c11 => ?_)
    refine v_aload_n 14 dX4_glyphOf_14 rfl rfl ?_
    refine v_getf 15 dX4_glyphOf_15 fl_X4_20 mPut_o rfl ?_
    refine v_bipush (v := 7) 18 dX4_glyphOf_18 (by decide) ?_
    refine v_iload 20 dX4_glyphOf_20 rfl ?_
    refine v_imul 22 dX4_glyphOf_22 ?_
    refine m_ild 23 6 dX4_glyphOf_23 hds (by rw [m7]; exact vp_in_nI (N := 1799) (by omega) (by decide)) ?_
    refine v_iload_n 24 dX4_glyphOf_24 rfl rfl ?_
    refine v_icmp_ne (tgt := 49) 25 dX4_glyphOf_25 (by decide) (fun c25 => ?_) (fun c25 => ?_)
    · refine v_iload_n 49 dX4_glyphOf_49 rfl rfl ?_
      refine v_ist3 50 dX4_glyphOf_50 ?_
      refine v_inc4 (y := 1) 51 dX4_glyphOf_51 (by decide) ?_
      refine v_goto (tgt := 5) 54 dX4_glyphOf_54 (by decide) ?_
      have e1 : (7 * nI k + 1 : Int32) = nI (7 * k + 1) := by rw [m7]; exact m7a k 1
      rw [m7, nI_clamp (by omega)] at c25
      try rw [e1, nI_clamp (by omega)] at c41
      refine V.eq (ih (k + 1) (by omega)) rfl ?_ rfl rfl
      simp_all [lastG, nI_1]
    · refine v_aload_n 28 dX4_glyphOf_28 rfl rfl ?_
      refine v_getf 29 dX4_glyphOf_29 fl_X4_20 mPut_o rfl ?_
      refine v_bipush (v := 7) 32 dX4_glyphOf_32 (by decide) ?_
      refine v_iload 34 dX4_glyphOf_34 rfl ?_
      refine v_imul 36 dX4_glyphOf_36 ?_
      refine v_iconst (v := 1) 37 dX4_glyphOf_37 (by decide) ?_
      refine v_iadd 38 dX4_glyphOf_38 ?_
      refine m_ild 39 6 dX4_glyphOf_39 hds (by rw [m7]; exact (m7a k 1).symm ▸ vp_in_nI (N := 1799) (by omega) (by decide)) ?_
      refine v_iload_n 40 dX4_glyphOf_40 rfl rfl ?_
      refine v_icmp_ne (tgt := 49) 41 dX4_glyphOf_41 (by decide) (fun c41 => ?_) (fun c41 => ?_)
      · refine v_iload_n 49 dX4_glyphOf_49 rfl rfl ?_
        refine v_ist3 50 dX4_glyphOf_50 ?_
        refine v_inc4 (y := 1) 51 dX4_glyphOf_51 (by decide) ?_
        refine v_goto (tgt := 5) 54 dX4_glyphOf_54 (by decide) ?_
        have e1 : (7 * nI k + 1 : Int32) = nI (7 * k + 1) := by rw [m7]; exact m7a k 1
        rw [m7, nI_clamp (by omega)] at c25
        try rw [e1, nI_clamp (by omega)] at c41
        refine V.eq (ih (k + 1) (by omega)) rfl ?_ rfl rfl
        simp_all [lastG, nI_1]
      · refine v_iload 44 dX4_glyphOf_44 rfl ?_
        refine v_goto (tgt := 50) 46 dX4_glyphOf_46 (by decide) ?_
        refine v_ist3 50 dX4_glyphOf_50 ?_
        refine v_inc4 (y := 1) 51 dX4_glyphOf_51 (by decide) ?_
        refine v_goto (tgt := 5) 54 dX4_glyphOf_54 (by decide) ?_
        have e1 : (7 * nI k + 1 : Int32) = nI (7 * k + 1) := by rw [m7]; exact m7a k 1
        rw [m7, nI_clamp (by omega)] at c25
        try rw [e1, nI_clamp (by omega)] at c41
        refine V.eq (ih (k + 1) (by omega)) rfl ?_ rfl rfl
        simp_all [lastG, nI_1]
set_option maxHeartbeats 4000000 in
set_option maxRecDepth 100000 in
theorem ct_glyphOf {K : KT} {h : AH} {mo : Nat} {ad : Nat → Nat} {S : MS} {G : Nat} {x c : Int32} (hds : mDis mo ad) (hF : S.1 5 = nI G) (hG : G ≤ 256) : Ct K mX4_glyphOf 0 0 [.ref mo, .int x, .int c] (mPut h mo ad S) (fun r h' => r = some (.int (lastG (S.2 6) x c G)) ∧ h' = mPut h mo ad S) noX := by
  refine ct_of (by decide +kernel) rfl (Nat.le_of_ble_eq_true rfl) rfl ?_
  refine v_iconst (v := -1) 0 dX4_glyphOf_0 (by decide) ?_
  refine v_ist3 1 dX4_glyphOf_1 ?_
  refine v_iconst (v := 0) 2 dX4_glyphOf_2 (by decide) ?_
  refine v_ist4 3 dX4_glyphOf_3 ?_
  exact lp_glyphOf hds hF hG ⟨rfl, rfl⟩ G 0 (by omega)
set_option maxHeartbeats 4000000 in
set_option maxRecDepth 100000 in
theorem lp_glyphsOf {K : KT} {h : AH} {mo : Nat} {ad : Nat → Nat} {S : MS} {G : Nat} {x : Int32} {Q : QR} {X : QX} (hds : mDis mo ad) (hF : S.1 5 = nI G) (hG : G ≤ 256) (hq : Q (some (.int (cntG (S.2 6) x G))) (mPut h mo ad S)) : ∀ n k : Nat, k + n = G → V K mX4_glyphsOf 4 [some (.ref mo), some (.int x), some (.int (cntG (S.2 6) x k)), some (.int (nI k))] [] (mPut h mo ad S) 0 0 Q X := by
  intro n
  induction n with
  | zero =>
    intro k hk
    have hkF : k = G := by omega
    subst hkF
    refine v_iload_n 4 dX4_glyphsOf_4 rfl rfl ?_
    refine v_aload_n 5 dX4_glyphsOf_5 rfl rfl ?_
    refine v_getf 6 dX4_glyphsOf_6 fl_X4_73 mPut_o rfl ?_
    refine v_icmp_ge (tgt := 39) 9 dX4_glyphsOf_9 (by decide) (fun c9 => ?_) (fun c9 => absurd (by rw [hF]; exact nI_le (Nat.le_refl _) (by omega)) c9)
    refine v_iload_n 39 dX4_glyphsOf_39 rfl rfl ?_
    refine v_iret 40 dX4_glyphsOf_40 rfl rfl ?_
    exact hq
  | succ n ih =>
    intro k hk
    refine v_iload_n 4 dX4_glyphsOf_4 rfl rfl ?_
    refine v_aload_n 5 dX4_glyphsOf_5 rfl rfl ?_
    refine v_getf 6 dX4_glyphsOf_6 fl_X4_73 mPut_o rfl ?_
    refine v_icmp_ge (tgt := 39) 9 dX4_glyphsOf_9 (by decide) (fun c9 => absurd c9 (by rw [hF]; exact nI_ge (by omega) (by omega))) (fun c9 => ?_)
    refine v_iload_n 12 dX4_glyphsOf_12 rfl rfl ?_
    refine v_aload_n 13 dX4_glyphsOf_13 rfl rfl ?_
    refine v_getf 14 dX4_glyphsOf_14 fl_X4_20 mPut_o rfl ?_
    refine v_bipush (v := 7) 17 dX4_glyphsOf_17 (by decide) ?_
    refine v_iload_n 19 dX4_glyphsOf_19 rfl rfl ?_
    refine v_imul 20 dX4_glyphsOf_20 ?_
    refine m_ild 21 6 dX4_glyphsOf_21 hds (by rw [m7]; exact vp_in_nI (N := 1799) (by omega) (by decide)) ?_
    refine v_iload_n 22 dX4_glyphsOf_22 rfl rfl ?_
    refine v_icmp_ne (tgt := 30) 23 dX4_glyphsOf_23 (by decide) (fun c23 => ?_) (fun c23 => ?_)
    · refine v_iconst (v := 0) 30 dX4_glyphsOf_30 (by decide) ?_
      refine v_iadd 31 dX4_glyphsOf_31 ?_
      refine v_ist2 32 dX4_glyphsOf_32 ?_
      refine v_inc3 (y := 1) 33 dX4_glyphsOf_33 (by decide) ?_
      refine v_goto (tgt := 4) 36 dX4_glyphsOf_36 (by decide) ?_
      rw [m7, nI_clamp (by omega)] at c23
      refine V.eq (ih (k + 1) (by omega)) rfl ?_ rfl rfl
      simp_all [cntG, nI_1]
    · refine v_iconst (v := 1) 26 dX4_glyphsOf_26 (by decide) ?_
      refine v_goto (tgt := 31) 27 dX4_glyphsOf_27 (by decide) ?_
      refine v_iadd 31 dX4_glyphsOf_31 ?_
      refine v_ist2 32 dX4_glyphsOf_32 ?_
      refine v_inc3 (y := 1) 33 dX4_glyphsOf_33 (by decide) ?_
      refine v_goto (tgt := 4) 36 dX4_glyphsOf_36 (by decide) ?_
      rw [m7, nI_clamp (by omega)] at c23
      refine V.eq (ih (k + 1) (by omega)) rfl ?_ rfl rfl
      simp_all [cntG, nI_1]
set_option maxHeartbeats 4000000 in
set_option maxRecDepth 100000 in
theorem ct_glyphsOf {K : KT} {h : AH} {mo : Nat} {ad : Nat → Nat} {S : MS} {G : Nat} {x : Int32} (hds : mDis mo ad) (hF : S.1 5 = nI G) (hG : G ≤ 256) : Ct K mX4_glyphsOf 0 0 [.ref mo, .int x] (mPut h mo ad S) (fun r h' => r = some (.int (cntG (S.2 6) x G)) ∧ h' = mPut h mo ad S) noX := by
  refine ct_of (by decide +kernel) rfl (Nat.le_of_ble_eq_true rfl) rfl ?_
  refine v_iconst (v := 0) 0 dX4_glyphsOf_0 (by decide) ?_
  refine v_ist2 1 dX4_glyphsOf_1 ?_
  refine v_iconst (v := 0) 2 dX4_glyphsOf_2 (by decide) ?_
  refine v_ist3 3 dX4_glyphsOf_3 ?_
  exact lp_glyphsOf hds hF hG ⟨rfl, rfl⟩ G 0 (by omega)

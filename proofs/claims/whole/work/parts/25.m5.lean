theorem mI_mI (S : MS) (k : Nat) (a b : Int32) : mI (mI S k a) k b = mI S k b := by
  refine Prod.ext (funext fun j => ?_) rfl
  show (if j = k then b else if j = k then a else S.1 j) = if j = k then b else S.1 j
  split <;> rfl
theorem mA_mA (S : MS) (k : Nat) (f g : Nat → Int32) : mA (mA S k f) k g = mA S k g := by
  refine Prod.ext rfl (funext fun j => ?_)
  show (if j = k then g else if j = k then f else S.2 j) = if j = k then g else S.2 j
  split <;> rfl
theorem mA_self (S : MS) (k : Nat) : mA S k (S.2 k) = S := by
  refine Prod.ext rfl (funext fun j => ?_)
  show (if j = k then S.2 k else S.2 j) = S.2 j
  split
  · next e => rw [e]
  · rfl
/-- the attributes of font f laid into the wishes of b, the first k -/
def wcopy (wi at_ : Nat → Int32) (b f : Nat) : Nat → Nat → Int32
  | 0 => wi
  | k + 1 => upd (wcopy wi at_ b f k) (7 * b + k) (at_ (7 * f + k))
def pinR (S : MS) (F : Nat) (which x : Int32) (S' : MS) (r : Int32) : Prop :=
  ((lastIx (S.2 2) x F < 0 ∨ (¬ which = 0 ∧ ¬ which = 1)) ∧ r = 0 ∧ S' = mI S 0 0) ∨
  (∃ k b, k < F ∧ lastIx (S.2 2) x F = nI k ∧ S.2 2 k = x ∧ b < 2 ∧ which = nI b ∧ r = 1 ∧ S' = mA (mA (mI S 0 0) 11 (upd (S.2 11) b x)) 10 (wcopy (S.2 10) (S.2 3) b k 7))
set_option maxHeartbeats 4000000 in
set_option maxRecDepth 100000 in
theorem lp_pin {K : KT} {h : AH} {mo : Nat} {ad : Nat → Nat} {S : MS} {x : Int32} {b f : Nat} {Q : QR} {X : QX} (hds : mDis mo ad) (hb : b < 2) (hf : f < 33) (hq : Q (some (.int 1)) (mPut h mo ad (mA S 10 (wcopy (S.2 10) (S.2 3) b f 7)))) : ∀ n k : Nat, k + n = 7 → V K mX4_pin 36 [some (.ref mo), some (.int (nI b)), some (.int x), some (.int (nI f)), some (.int (nI k))] [] (mPut h mo ad (mA S 10 (wcopy (S.2 10) (S.2 3) b f k))) 0 0 Q X := by
  intro n
  induction n with
  | zero =>
    intro k hk
    have hkF : k = 7 := by omega
    subst hkF
    refine v_iload 36 dX4_pin_36 rfl ?_
    refine v_bipush (v := 7) 38 dX4_pin_38 (by decide) ?_
    refine v_icmp_ge (tgt := 73) 40 dX4_pin_40 (by decide) (fun c40 => ?_) (fun c40 => absurd (by decide) c40)
    refine v_iconst (v := 1) 73 dX4_pin_73 (by decide) ?_
    refine v_iret 74 dX4_pin_74 rfl rfl ?_
    exact hq
  | succ n ih =>
    intro k hk
    refine v_iload 36 dX4_pin_36 rfl ?_
    refine v_bipush (v := 7) 38 dX4_pin_38 (by decide) ?_
    refine v_icmp_ge (tgt := 73) 40 dX4_pin_40 (by decide) (fun c40 => absurd c40 (nI_ge (b := 7) (by omega) (by decide))) (fun c40 => ?_)
    refine v_aload_n 43 dX4_pin_43 rfl rfl ?_
    refine v_getf 44 dX4_pin_44 fl_X4_30 mPut_o rfl ?_
    refine v_bipush (v := 7) 47 dX4_pin_47 (by decide) ?_
    refine v_iload_n 49 dX4_pin_49 rfl rfl ?_
    refine v_imul 50 dX4_pin_50 ?_
    refine v_iload 51 dX4_pin_51 rfl ?_
    refine v_iadd 53 dX4_pin_53 ?_
    refine v_aload_n 54 dX4_pin_54 rfl rfl ?_
    refine v_getf 55 dX4_pin_55 fl_X4_13 mPut_o rfl ?_
    refine v_bipush (v := 7) 58 dX4_pin_58 (by decide) ?_
    refine v_iload_n 60 dX4_pin_60 rfl rfl ?_
    refine v_imul 61 dX4_pin_61 ?_
    refine v_iload 62 dX4_pin_62 rfl ?_
    refine v_iadd 64 dX4_pin_64 ?_
    refine m_ild 65 3 dX4_pin_65 hds (by rw [m7, nI_add]; exact vp_in_nI (N := 231) (by omega) (by decide)) ?_
    refine m_ist 66 10 dX4_pin_66 hds (by rw [m7, nI_add]; exact vp_in_nI (N := 14) (by omega) (by decide)) ?_
    refine v_inc4 (y := 1) 67 dX4_pin_67 (by decide) ?_
    refine v_goto (tgt := 36) 70 dX4_pin_70 (by decide) ?_
    refine V.eq (ih (k + 1) (by omega)) rfl (by rw [← nI_1]) rfl (congrArg (mPut h mo ad) ?_)
    rw [mA_mA, mA_s, mA_n (by decide), m7, m7, nI_add, nI_add, nI_clamp (by omega), nI_clamp (by omega)]
    rfl
set_option maxHeartbeats 4000000 in
set_option maxRecDepth 100000 in
theorem ct_pin {K : KT} {h : AH} {mo : Nat} {ad : Nat → Nat} {S : MS} {F : Nat} {which x : Int32} (hds : mDis mo ad) (hF : S.1 1 = nI F) (hF2 : F ≤ 32) : Ct K mX4_pin 0 0 [.ref mo, .int which, .int x] (mPut h mo ad S) (fun r h' => ∃ (b : Int32) (S' : MS), r = some (.int b) ∧ h' = mPut h mo ad S' ∧ pinR S F which x S' b) noX := by
  refine ct_of (by decide +kernel) rfl (Nat.le_of_ble_eq_true rfl) rfl ?_
  refine v_aload_n 0 dX4_pin_0 rfl rfl ?_
  refine v_iconst (v := 0) 1 dX4_pin_1 (by decide) ?_
  refine m_put 2 dX4_pin_2 fl_X4_45 ?_
  refine v_aload_n 5 dX4_pin_5 rfl rfl ?_
  refine v_iload_n 6 dX4_pin_6 rfl rfl ?_
  refine m_call 7 [.int x] dX4_pin_7 cv_X4_86 (ct_fontOf (F := F) hds (by rw [mI_n (by decide)]; exact hF) (by omega)) (fun r h' hq' => ?_)
  obtain ⟨rfl, rfl⟩ := hq'
  refine v_ist3 10 dX4_pin_10 ?_
  refine v_iload_n 11 dX4_pin_11 rfl rfl ?_
  refine v_if_lt (tgt := 24) 12 dX4_pin_12 (by decide) (fun c12 => ?_) (fun c12 => ?_)
  · refine v_iconst (v := 0) 24 dX4_pin_24 (by decide) ?_
    refine v_iret 25 dX4_pin_25 rfl rfl ?_
    first | exact ⟨_, _, rfl, rfl, Or.inl ⟨Or.inl c12, rfl, rfl⟩⟩ | exact ⟨_, _, rfl, rfl, Or.inl ⟨Or.inr ⟨c16, c21⟩, rfl, rfl⟩⟩
  · refine v_iload_n 15 dX4_pin_15 rfl rfl ?_
    refine v_if_eq (tgt := 26) 16 dX4_pin_16 (by decide) (fun c16 => ?_) (fun c16 => ?_)
    · obtain ⟨k, hk, ek, ik⟩ := lastIx_in (f := S.2 2) (x := x) (n := F) (by assumption)
      obtain ⟨b, hb, rfl⟩ : ∃ b : Nat, b < 2 ∧ which = nI b := by first | exact ⟨0, by decide, c16⟩ | exact ⟨1, by decide, c21⟩
      simp only [mI_2]
      rw [ek]
      refine v_aload_n 26 dX4_pin_26 rfl rfl ?_
      refine v_getf 27 dX4_pin_27 fl_X4_33 mPut_o rfl ?_
      refine v_iload_n 30 dX4_pin_30 rfl rfl ?_
      refine v_iload_n 31 dX4_pin_31 rfl rfl ?_
      refine m_ist 32 11 dX4_pin_32 hds (vp_in_nI (N := 2) hb (by decide)) ?_
      refine v_iconst (v := 0) 33 dX4_pin_33 (by decide) ?_
      refine v_ist4 34 dX4_pin_34 ?_
      rw [nI_clamp (by omega)]
      refine V.eq (lp_pin (S := mA (mI S 0 0) 11 (upd (S.2 11) b x)) hds hb (by omega) ?_ 7 0 (by omega)) rfl rfl rfl (congrArg (mPut h mo ad) (mA_self _ 10))
      exact ⟨_, _, rfl, rfl, Or.inr ⟨k, b, hk, ek, ik, hb, rfl, rfl, rfl⟩⟩
    · refine v_iload_n 19 dX4_pin_19 rfl rfl ?_
      refine v_iconst (v := 1) 20 dX4_pin_20 (by decide) ?_
      refine v_icmp_eq (tgt := 26) 21 dX4_pin_21 (by decide) (fun c21 => ?_) (fun c21 => ?_)
      · obtain ⟨k, hk, ek, ik⟩ := lastIx_in (f := S.2 2) (x := x) (n := F) (by assumption)
        obtain ⟨b, hb, rfl⟩ : ∃ b : Nat, b < 2 ∧ which = nI b := by first | exact ⟨0, by decide, c16⟩ | exact ⟨1, by decide, c21⟩
        simp only [mI_2]
        rw [ek]
        refine v_aload_n 26 dX4_pin_26 rfl rfl ?_
        refine v_getf 27 dX4_pin_27 fl_X4_33 mPut_o rfl ?_
        refine v_iload_n 30 dX4_pin_30 rfl rfl ?_
        refine v_iload_n 31 dX4_pin_31 rfl rfl ?_
        refine m_ist 32 11 dX4_pin_32 hds (vp_in_nI (N := 2) hb (by decide)) ?_
        refine v_iconst (v := 0) 33 dX4_pin_33 (by decide) ?_
        refine v_ist4 34 dX4_pin_34 ?_
        rw [nI_clamp (by omega)]
        refine V.eq (lp_pin (S := mA (mI S 0 0) 11 (upd (S.2 11) b x)) hds hb (by omega) ?_ 7 0 (by omega)) rfl rfl rfl (congrArg (mPut h mo ad) (mA_self _ 10))
        exact ⟨_, _, rfl, rfl, Or.inr ⟨k, b, hk, ek, ik, hb, rfl, rfl, rfl⟩⟩
      · refine v_iconst (v := 0) 24 dX4_pin_24 (by decide) ?_
        refine v_iret 25 dX4_pin_25 rfl rfl ?_
        first | exact ⟨_, _, rfl, rfl, Or.inl ⟨Or.inl c12, rfl, rfl⟩⟩ | exact ⟨_, _, rfl, rfl, Or.inl ⟨Or.inr ⟨c16, c21⟩, rfl, rfl⟩⟩

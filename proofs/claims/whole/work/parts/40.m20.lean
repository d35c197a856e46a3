theorem aw_int : Cond.arrayClass .int ∈ gW := (mt 86 (by decide +kernel) (by decide +kernel))
theorem aw_bool : Cond.arrayClass .boolean ∈ gW := (mt 693 (by decide +kernel) (by decide +kernel))
theorem aw_byte : Cond.arrayClass .byte ∈ gW := (mt 348 (by decide +kernel) (by decide +kernel))
theorem aw_long : Cond.arrayClass .long ∈ gW := (mt 510 (by decide +kernel) (by decide +kernel))
theorem oi_X4 : Cond.methodLink RX4 1 objectInit ∈ gW := (mt 631 (by decide +kernel) (by decide +kernel))
theorem oi_i : Cond.instanceMethod objectInit ∈ gW := (mt 30 (by decide +kernel) (by decide +kernel))
theorem oi_c : Cond.code objectInit ⟨#[0xb1]⟩ 1 none ∈ gW := (mt 31 (by decide +kernel) (by decide +kernel))
def mDr0 : Nat → Int32 := (upd (upd (upd (upd (upd (upd (upd (fun _ => 0) 0 277) 1 0) 2 1000) 3 1200) 4 0) 5 0) 6 3)
def mWi0 : Nat → Int32 := (upd (upd (upd (upd (upd (upd (upd (upd (upd (upd (upd (upd (upd (upd (fun _ => 0) 0 277) 1 0) 2 1000) 3 1200) 4 0) 5 0) 6 3) 7 277) 8 0) 9 1000) 10 1200) 11 0) 12 0) 13 3)
def mPi0 : Nat → Int32 := (upd (upd (fun _ => 0) 0 (-1)) 1 (-1))
def mS0 : MS := (fun _ => 0, fun k => if k = 9 then mDr0 else if k = 10 then mWi0 else if k = 11 then mPi0 else fun _ => 0)
def mFs0 : List Value := [.int 0, .int 0, .null, .null, .null, .int 0, .null, .int 0, .null, .null, .null, .null, .int 0, .int 0, .int 0, .null, .int 0, .int 0, .null, .null]
theorem hup_none {h : AH} {a q : Nat} {e : AE} (hn : hup h a e q = none) : q ≠ a ∧ h q = none := by
  by_cases hq : q = a
  · subst hq; rw [hup_s] at hn; exact absurd hn (by simp)
  · rw [hup_n hq] at hn; exact ⟨hq, hn⟩
theorem hup_c {h : AH} {a b : Nat} {e e' : AE} (n : a ≠ b) : hup (hup h a e) b e' = hup (hup h b e') a e := by
  funext q; unfold hup
  by_cases h1 : q = b
  · subst h1; rw [if_pos rfl, if_neg (fun x => n x.symm), if_pos rfl]
  · rw [if_neg h1, if_neg h1]
theorem hup3 {h : AH} {a b : Nat} {o o' e : AE} (n : a ≠ b) : hup (hup (hup h b o) a e) b o' = hup (hup h a e) b o' := by
  rw [hup_c (h := hup h b o) n, hup_hup, hup_c (h := h) (a := b) (b := a) (fun x => n x.symm)]
set_option maxHeartbeats 4000000 in
set_option maxRecDepth 100000 in
theorem ct_mInit {K : KT} {h : AH} {mo : Nat} (hmo : h mo = some (.inr (5, mFs0))) : Ct K mX4_init 11 24204 [.ref mo] h (fun r h' => r = none ∧ ∃ ad : Nat → Nat, mDis mo ad ∧ (∀ k ∈ mKs, h (ad k) = none) ∧ h' = mPut h mo ad mS0) noX := by
  refine ct_of (by decide +kernel) rfl (Nat.le_of_ble_eq_true rfl) rfl ?_
  refine v_aload_n 0 dX4_init_0 rfl rfl ?_
  refine v_objInit 1 dX4_init_1 oi_X4 oi_i oi_c ?_
  refine V.eq (h := hup h mo (.inr (5, [.int 0, .int 0, .null, .null, .null, .int 0, .null, .int 0, .null, .null, .null, .null, .int 0, .int 0, .int 0, .null, .int 0, .int 0, .null, .null]))) ?_ rfl rfl rfl (hup_id hmo)
  refine v_aload_n 4 dX4_init_4 rfl rfl ?_
  refine v_bipush (v := 33) 5 dX4_init_5 (by decide) ?_
  refine v_newa (ty := .int) (N := 33) (x := (33, .inl (fun _ => 0))) 7 dX4_init_7 aw_int rfl (fun _ => rfl) (by decide) (by decide) (by decide) ?_
  intro a2 hf2 hk2
  obtain ⟨n2_mo, g2⟩ := hup_none hf2
  refine v_putF 9 dX4_init_9 fl_X4_7 rfl ((hup_n (Ne.symm n2_mo)).trans (hup_s _ _ _)) (Nat.le_of_ble_eq_true rfl) rfl rfl ?_
  rw [hup3 n2_mo]
  refine V.eq (h := hup (hup h a2 (.inl (.int, 33, .inl (fun _ => 0)))) mo (.inr (5, [.int 0, .int 0, .ref a2, .null, .null, .int 0, .null, .int 0, .null, .null, .null, .null, .int 0, .int 0, .int 0, .null, .int 0, .int 0, .null, .null]))) ?_ rfl rfl rfl rfl
  refine v_aload_n 12 dX4_init_12 rfl rfl ?_
  refine v_sipush (v := 231) 13 dX4_init_13 (by decide) ?_
  refine v_newa (ty := .int) (N := 231) (x := (231, .inl (fun _ => 0))) 16 dX4_init_16 aw_int rfl (fun _ => rfl) (by decide) (by decide) (by decide) ?_
  intro a3 hf3 hk3
  obtain ⟨n3_mo, g3⟩ := hup_none hf3
  obtain ⟨n3_2, g3⟩ := hup_none g3
  refine v_putF 18 dX4_init_18 fl_X4_13 rfl ((hup_n (Ne.symm n3_mo)).trans (hup_s _ _ _)) (Nat.le_of_ble_eq_true rfl) rfl rfl ?_
  rw [hup3 n3_mo]
  refine V.eq (h := hup (hup (hup h a2 (.inl (.int, 33, .inl (fun _ => 0)))) a3 (.inl (.int, 231, .inl (fun _ => 0)))) mo (.inr (5, [.int 0, .int 0, .ref a2, .ref a3, .null, .int 0, .null, .int 0, .null, .null, .null, .null, .int 0, .int 0, .int 0, .null, .int 0, .int 0, .null, .null]))) ?_ rfl rfl rfl rfl
  refine v_aload_n 21 dX4_init_21 rfl rfl ?_
  refine v_bipush (v := 33) 22 dX4_init_22 (by decide) ?_
  refine v_newa (ty := .boolean) (N := 33) (x := (33, .inl (fun _ => 0))) 24 dX4_init_24 aw_bool rfl (fun _ => rfl) (by decide) (by decide) (by decide) ?_
  intro a4 hf4 hk4
  obtain ⟨n4_mo, g4⟩ := hup_none hf4
  obtain ⟨n4_3, g4⟩ := hup_none g4
  obtain ⟨n4_2, g4⟩ := hup_none g4
  refine v_putF 26 dX4_init_26 fl_X4_16 rfl ((hup_n (Ne.symm n4_mo)).trans (hup_s _ _ _)) (Nat.le_of_ble_eq_true rfl) rfl rfl ?_
  rw [hup3 n4_mo]
  refine V.eq (h := hup (hup (hup (hup h a2 (.inl (.int, 33, .inl (fun _ => 0)))) a3 (.inl (.int, 231, .inl (fun _ => 0)))) a4 (.inl (.boolean, 33, .inl (fun _ => 0)))) mo (.inr (5, [.int 0, .int 0, .ref a2, .ref a3, .ref a4, .int 0, .null, .int 0, .null, .null, .null, .null, .int 0, .int 0, .int 0, .null, .int 0, .int 0, .null, .null]))) ?_ rfl rfl rfl rfl
  refine v_aload_n 29 dX4_init_29 rfl rfl ?_
  refine v_sipush (v := 1799) 30 dX4_init_30 (by decide) ?_
  refine v_newa (ty := .int) (N := 1799) (x := (1799, .inl (fun _ => 0))) 33 dX4_init_33 aw_int rfl (fun _ => rfl) (by decide) (by decide) (by decide) ?_
  intro a6 hf6 hk6
  obtain ⟨n6_mo, g6⟩ := hup_none hf6
  obtain ⟨n6_4, g6⟩ := hup_none g6
  obtain ⟨n6_3, g6⟩ := hup_none g6
  obtain ⟨n6_2, g6⟩ := hup_none g6
  refine v_putF 35 dX4_init_35 fl_X4_20 rfl ((hup_n (Ne.symm n6_mo)).trans (hup_s _ _ _)) (Nat.le_of_ble_eq_true rfl) rfl rfl ?_
  rw [hup3 n6_mo]
  refine V.eq (h := hup (hup (hup (hup (hup h a2 (.inl (.int, 33, .inl (fun _ => 0)))) a3 (.inl (.int, 231, .inl (fun _ => 0)))) a4 (.inl (.boolean, 33, .inl (fun _ => 0)))) a6 (.inl (.int, 1799, .inl (fun _ => 0)))) mo (.inr (5, [.int 0, .int 0, .ref a2, .ref a3, .ref a4, .int 0, .ref a6, .int 0, .null, .null, .null, .null, .int 0, .int 0, .int 0, .null, .int 0, .int 0, .null, .null]))) ?_ rfl rfl rfl rfl
  refine v_aload_n 38 dX4_init_38 rfl rfl ?_
  refine v_sipush (v := 20000) 39 dX4_init_39 (by decide) ?_
  refine v_newa (ty := .byte) (N := 20000) (x := (20000, .inl (fun _ => 0))) 42 dX4_init_42 aw_byte rfl (fun _ => rfl) (by decide) (by decide) (by decide) ?_
  intro a8 hf8 hk8
  obtain ⟨n8_mo, g8⟩ := hup_none hf8
  obtain ⟨n8_6, g8⟩ := hup_none g8
  obtain ⟨n8_4, g8⟩ := hup_none g8
  obtain ⟨n8_3, g8⟩ := hup_none g8
  obtain ⟨n8_2, g8⟩ := hup_none g8
  refine v_putF 44 dX4_init_44 fl_X4_23 rfl ((hup_n (Ne.symm n8_mo)).trans (hup_s _ _ _)) (Nat.le_of_ble_eq_true rfl) rfl rfl ?_
  rw [hup3 n8_mo]
  refine V.eq (h := hup (hup (hup (hup (hup (hup h a2 (.inl (.int, 33, .inl (fun _ => 0)))) a3 (.inl (.int, 231, .inl (fun _ => 0)))) a4 (.inl (.boolean, 33, .inl (fun _ => 0)))) a6 (.inl (.int, 1799, .inl (fun _ => 0)))) a8 (.inl (.byte, 20000, .inl (fun _ => 0)))) mo (.inr (5, [.int 0, .int 0, .ref a2, .ref a3, .ref a4, .int 0, .ref a6, .int 0, .ref a8, .null, .null, .null, .int 0, .int 0, .int 0, .null, .int 0, .int 0, .null, .null]))) ?_ rfl rfl rfl rfl
  refine v_aload_n 47 dX4_init_47 rfl rfl ?_
  refine v_bipush (v := 7) 48 dX4_init_48 (by decide) ?_
  refine v_newa (ty := .int) (N := 7) (x := (7, .inl (fun _ => 0))) 50 dX4_init_50 aw_int rfl (fun _ => rfl) (by decide) (by decide) (by decide) ?_
  intro a9 hf9 hk9
  obtain ⟨n9_mo, g9⟩ := hup_none hf9
  obtain ⟨n9_8, g9⟩ := hup_none g9
  obtain ⟨n9_6, g9⟩ := hup_none g9
  obtain ⟨n9_4, g9⟩ := hup_none g9
  obtain ⟨n9_3, g9⟩ := hup_none g9
  obtain ⟨n9_2, g9⟩ := hup_none g9
  refine v_dup 52 dX4_init_52 rfl ?_
  refine v_iconst (v := 0) 53 dX4_init_53 (by decide) ?_
  refine v_sipush (v := 277) 54 dX4_init_54 (by decide) ?_
  refine v_iast 57 dX4_init_57 (hup_s _ _ _) (vp_in_nI (n := 0) (N := 7) (by decide) (by decide)) ?_
  rw [hup_hup]
  refine v_dup 58 dX4_init_58 rfl ?_
  refine v_iconst (v := 1) 59 dX4_init_59 (by decide) ?_
  refine v_iconst (v := 0) 60 dX4_init_60 (by decide) ?_
  refine v_iast 61 dX4_init_61 (hup_s _ _ _) (vp_in_nI (n := 1) (N := 7) (by decide) (by decide)) ?_
  rw [hup_hup]
  refine v_dup 62 dX4_init_62 rfl ?_
  refine v_iconst (v := 2) 63 dX4_init_63 (by decide) ?_
  refine v_sipush (v := 1000) 64 dX4_init_64 (by decide) ?_
  refine v_iast 67 dX4_init_67 (hup_s _ _ _) (vp_in_nI (n := 2) (N := 7) (by decide) (by decide)) ?_
  rw [hup_hup]
  refine v_dup 68 dX4_init_68 rfl ?_
  refine v_iconst (v := 3) 69 dX4_init_69 (by decide) ?_
  refine v_sipush (v := 1200) 70 dX4_init_70 (by decide) ?_
  refine v_iast 73 dX4_init_73 (hup_s _ _ _) (vp_in_nI (n := 3) (N := 7) (by decide) (by decide)) ?_
  rw [hup_hup]
  refine v_dup 74 dX4_init_74 rfl ?_
  refine v_iconst (v := 4) 75 dX4_init_75 (by decide) ?_
  refine v_iconst (v := 0) 76 dX4_init_76 (by decide) ?_
  refine v_iast 77 dX4_init_77 (hup_s _ _ _) (vp_in_nI (n := 4) (N := 7) (by decide) (by decide)) ?_
  rw [hup_hup]
  refine v_dup 78 dX4_init_78 rfl ?_
  refine v_iconst (v := 5) 79 dX4_init_79 (by decide) ?_
  refine v_iconst (v := 0) 80 dX4_init_80 (by decide) ?_
  refine v_iast 81 dX4_init_81 (hup_s _ _ _) (vp_in_nI (n := 5) (N := 7) (by decide) (by decide)) ?_
  rw [hup_hup]
  refine v_dup 82 dX4_init_82 rfl ?_
  refine v_bipush (v := 6) 83 dX4_init_83 (by decide) ?_
  refine v_iconst (v := 3) 85 dX4_init_85 (by decide) ?_
  refine v_iast 86 dX4_init_86 (hup_s _ _ _) (vp_in_nI (n := 6) (N := 7) (by decide) (by decide)) ?_
  rw [hup_hup]
  refine v_putF 87 dX4_init_87 fl_X4_27 rfl ((hup_n (Ne.symm n9_mo)).trans (hup_s _ _ _)) (Nat.le_of_ble_eq_true rfl) rfl rfl ?_
  rw [hup3 n9_mo]
  refine V.eq (h := hup (hup (hup (hup (hup (hup (hup h a2 (.inl (.int, 33, .inl (fun _ => 0)))) a3 (.inl (.int, 231, .inl (fun _ => 0)))) a4 (.inl (.boolean, 33, .inl (fun _ => 0)))) a6 (.inl (.int, 1799, .inl (fun _ => 0)))) a8 (.inl (.byte, 20000, .inl (fun _ => 0)))) a9 (.inl (.int, 7, .inl mDr0))) mo (.inr (5, [.int 0, .int 0, .ref a2, .ref a3, .ref a4, .int 0, .ref a6, .int 0, .ref a8, .ref a9, .null, .null, .int 0, .int 0, .int 0, .null, .int 0, .int 0, .null, .null]))) ?_ rfl rfl rfl rfl
  refine v_aload_n 90 dX4_init_90 rfl rfl ?_
  refine v_bipush (v := 14) 91 dX4_init_91 (by decide) ?_
  refine v_newa (ty := .int) (N := 14) (x := (14, .inl (fun _ => 0))) 93 dX4_init_93 aw_int rfl (fun _ => rfl) (by decide) (by decide) (by decide) ?_
  intro a10 hf10 hk10
  obtain ⟨n10_mo, g10⟩ := hup_none hf10
  obtain ⟨n10_9, g10⟩ := hup_none g10
  obtain ⟨n10_8, g10⟩ := hup_none g10
  obtain ⟨n10_6, g10⟩ := hup_none g10
  obtain ⟨n10_4, g10⟩ := hup_none g10
  obtain ⟨n10_3, g10⟩ := hup_none g10
  obtain ⟨n10_2, g10⟩ := hup_none g10
  refine v_dup 95 dX4_init_95 rfl ?_
  refine v_iconst (v := 0) 96 dX4_init_96 (by decide) ?_
  refine v_sipush (v := 277) 97 dX4_init_97 (by decide) ?_
  refine v_iast 100 dX4_init_100 (hup_s _ _ _) (vp_in_nI (n := 0) (N := 14) (by decide) (by decide)) ?_
  rw [hup_hup]
  refine v_dup 101 dX4_init_101 rfl ?_
  refine v_iconst (v := 1) 102 dX4_init_102 (by decide) ?_
  refine v_iconst (v := 0) 103 dX4_init_103 (by decide) ?_
  refine v_iast 104 dX4_init_104 (hup_s _ _ _) (vp_in_nI (n := 1) (N := 14) (by decide) (by decide)) ?_
  rw [hup_hup]
  refine v_dup 105 dX4_init_105 rfl ?_
  refine v_iconst (v := 2) 106 dX4_init_106 (by decide) ?_
  refine v_sipush (v := 1000) 107 dX4_init_107 (by decide) ?_
  refine v_iast 110 dX4_init_110 (hup_s _ _ _) (vp_in_nI (n := 2) (N := 14) (by decide) (by decide)) ?_
  rw [hup_hup]
  refine v_dup 111 dX4_init_111 rfl ?_
  refine v_iconst (v := 3) 112 dX4_init_112 (by decide) ?_
  refine v_sipush (v := 1200) 113 dX4_init_113 (by decide) ?_
  refine v_iast 116 dX4_init_116 (hup_s _ _ _) (vp_in_nI (n := 3) (N := 14) (by decide) (by decide)) ?_
  rw [hup_hup]
  refine v_dup 117 dX4_init_117 rfl ?_
  refine v_iconst (v := 4) 118 dX4_init_118 (by decide) ?_
  refine v_iconst (v := 0) 119 dX4_init_119 (by decide) ?_
  refine v_iast 120 dX4_init_120 (hup_s _ _ _) (vp_in_nI (n := 4) (N := 14) (by decide) (by decide)) ?_
  rw [hup_hup]
  refine v_dup 121 dX4_init_121 rfl ?_
  refine v_iconst (v := 5) 122 dX4_init_122 (by decide) ?_
  refine v_iconst (v := 0) 123 dX4_init_123 (by decide) ?_
  refine v_iast 124 dX4_init_124 (hup_s _ _ _) (vp_in_nI (n := 5) (N := 14) (by decide) (by decide)) ?_
  rw [hup_hup]
  refine v_dup 125 dX4_init_125 rfl ?_
  refine v_bipush (v := 6) 126 dX4_init_126 (by decide) ?_
  refine v_iconst (v := 3) 128 dX4_init_128 (by decide) ?_
  refine v_iast 129 dX4_init_129 (hup_s _ _ _) (vp_in_nI (n := 6) (N := 14) (by decide) (by decide)) ?_
  rw [hup_hup]
  refine v_dup 130 dX4_init_130 rfl ?_
  refine v_bipush (v := 7) 131 dX4_init_131 (by decide) ?_
  refine v_sipush (v := 277) 133 dX4_init_133 (by decide) ?_
  refine v_iast 136 dX4_init_136 (hup_s _ _ _) (vp_in_nI (n := 7) (N := 14) (by decide) (by decide)) ?_
  rw [hup_hup]
  refine v_dup 137 dX4_init_137 rfl ?_
  refine v_bipush (v := 8) 138 dX4_init_138 (by decide) ?_
  refine v_iconst (v := 0) 140 dX4_init_140 (by decide) ?_
  refine v_iast 141 dX4_init_141 (hup_s _ _ _) (vp_in_nI (n := 8) (N := 14) (by decide) (by decide)) ?_
  rw [hup_hup]
  refine v_dup 142 dX4_init_142 rfl ?_
  refine v_bipush (v := 9) 143 dX4_init_143 (by decide) ?_
  refine v_sipush (v := 1000) 145 dX4_init_145 (by decide) ?_
  refine v_iast 148 dX4_init_148 (hup_s _ _ _) (vp_in_nI (n := 9) (N := 14) (by decide) (by decide)) ?_
  rw [hup_hup]
  refine v_dup 149 dX4_init_149 rfl ?_
  refine v_bipush (v := 10) 150 dX4_init_150 (by decide) ?_
  refine v_sipush (v := 1200) 152 dX4_init_152 (by decide) ?_
  refine v_iast 155 dX4_init_155 (hup_s _ _ _) (vp_in_nI (n := 10) (N := 14) (by decide) (by decide)) ?_
  rw [hup_hup]
  refine v_dup 156 dX4_init_156 rfl ?_
  refine v_bipush (v := 11) 157 dX4_init_157 (by decide) ?_
  refine v_iconst (v := 0) 159 dX4_init_159 (by decide) ?_
  refine v_iast 160 dX4_init_160 (hup_s _ _ _) (vp_in_nI (n := 11) (N := 14) (by decide) (by decide)) ?_
  rw [hup_hup]
  refine v_dup 161 dX4_init_161 rfl ?_
  refine v_bipush (v := 12) 162 dX4_init_162 (by decide) ?_
  refine v_iconst (v := 0) 164 dX4_init_164 (by decide) ?_
  refine v_iast 165 dX4_init_165 (hup_s _ _ _) (vp_in_nI (n := 12) (N := 14) (by decide) (by decide)) ?_
  rw [hup_hup]
  refine v_dup 166 dX4_init_166 rfl ?_
  refine v_bipush (v := 13) 167 dX4_init_167 (by decide) ?_
  refine v_iconst (v := 3) 169 dX4_init_169 (by decide) ?_
  refine v_iast 170 dX4_init_170 (hup_s _ _ _) (vp_in_nI (n := 13) (N := 14) (by decide) (by decide)) ?_
  rw [hup_hup]
  refine v_putF 171 dX4_init_171 fl_X4_30 rfl ((hup_n (Ne.symm n10_mo)).trans (hup_s _ _ _)) (Nat.le_of_ble_eq_true rfl) rfl rfl ?_
  rw [hup3 n10_mo]
  refine V.eq (h := hup (hup (hup (hup (hup (hup (hup (hup h a2 (.inl (.int, 33, .inl (fun _ => 0)))) a3 (.inl (.int, 231, .inl (fun _ => 0)))) a4 (.inl (.boolean, 33, .inl (fun _ => 0)))) a6 (.inl (.int, 1799, .inl (fun _ => 0)))) a8 (.inl (.byte, 20000, .inl (fun _ => 0)))) a9 (.inl (.int, 7, .inl mDr0))) a10 (.inl (.int, 14, .inl mWi0))) mo (.inr (5, [.int 0, .int 0, .ref a2, .ref a3, .ref a4, .int 0, .ref a6, .int 0, .ref a8, .ref a9, .ref a10, .null, .int 0, .int 0, .int 0, .null, .int 0, .int 0, .null, .null]))) ?_ rfl rfl rfl rfl
  refine v_aload_n 174 dX4_init_174 rfl rfl ?_
  refine v_iconst (v := 2) 175 dX4_init_175 (by decide) ?_
  refine v_newa (ty := .int) (N := 2) (x := (2, .inl (fun _ => 0))) 176 dX4_init_176 aw_int rfl (fun _ => rfl) (by decide) (by decide) (by decide) ?_
  intro a11 hf11 hk11
  obtain ⟨n11_mo, g11⟩ := hup_none hf11
  obtain ⟨n11_10, g11⟩ := hup_none g11
  obtain ⟨n11_9, g11⟩ := hup_none g11
  obtain ⟨n11_8, g11⟩ := hup_none g11
  obtain ⟨n11_6, g11⟩ := hup_none g11
  obtain ⟨n11_4, g11⟩ := hup_none g11
  obtain ⟨n11_3, g11⟩ := hup_none g11
  obtain ⟨n11_2, g11⟩ := hup_none g11
  refine v_dup 178 dX4_init_178 rfl ?_
  refine v_iconst (v := 0) 179 dX4_init_179 (by decide) ?_
  refine v_iconst (v := -1) 180 dX4_init_180 (by decide) ?_
  refine v_iast 181 dX4_init_181 (hup_s _ _ _) (vp_in_nI (n := 0) (N := 2) (by decide) (by decide)) ?_
  rw [hup_hup]
  refine v_dup 182 dX4_init_182 rfl ?_
  refine v_iconst (v := 1) 183 dX4_init_183 (by decide) ?_
  refine v_iconst (v := -1) 184 dX4_init_184 (by decide) ?_
  refine v_iast 185 dX4_init_185 (hup_s _ _ _) (vp_in_nI (n := 1) (N := 2) (by decide) (by decide)) ?_
  rw [hup_hup]
  refine v_putF 186 dX4_init_186 fl_X4_33 rfl ((hup_n (Ne.symm n11_mo)).trans (hup_s _ _ _)) (Nat.le_of_ble_eq_true rfl) rfl rfl ?_
  rw [hup3 n11_mo]
  refine V.eq (h := hup (hup (hup (hup (hup (hup (hup (hup (hup h a2 (.inl (.int, 33, .inl (fun _ => 0)))) a3 (.inl (.int, 231, .inl (fun _ => 0)))) a4 (.inl (.boolean, 33, .inl (fun _ => 0)))) a6 (.inl (.int, 1799, .inl (fun _ => 0)))) a8 (.inl (.byte, 20000, .inl (fun _ => 0)))) a9 (.inl (.int, 7, .inl mDr0))) a10 (.inl (.int, 14, .inl mWi0))) a11 (.inl (.int, 2, .inl mPi0))) mo (.inr (5, [.int 0, .int 0, .ref a2, .ref a3, .ref a4, .int 0, .ref a6, .int 0, .ref a8, .ref a9, .ref a10, .ref a11, .int 0, .int 0, .int 0, .null, .int 0, .int 0, .null, .null]))) ?_ rfl rfl rfl rfl
  refine v_aload_n 189 dX4_init_189 rfl rfl ?_
  refine v_iconst (v := 5) 190 dX4_init_190 (by decide) ?_
  refine v_newa (ty := .int) (N := 5) (x := (5, .inl (fun _ => 0))) 191 dX4_init_191 aw_int rfl (fun _ => rfl) (by decide) (by decide) (by decide) ?_
  intro a15 hf15 hk15
  obtain ⟨n15_mo, g15⟩ := hup_none hf15
  obtain ⟨n15_11, g15⟩ := hup_none g15
  obtain ⟨n15_10, g15⟩ := hup_none g15
  obtain ⟨n15_9, g15⟩ := hup_none g15
  obtain ⟨n15_8, g15⟩ := hup_none g15
  obtain ⟨n15_6, g15⟩ := hup_none g15
  obtain ⟨n15_4, g15⟩ := hup_none g15
  obtain ⟨n15_3, g15⟩ := hup_none g15
  obtain ⟨n15_2, g15⟩ := hup_none g15
  refine v_putF 193 dX4_init_193 fl_X4_36 rfl ((hup_n (Ne.symm n15_mo)).trans (hup_s _ _ _)) (Nat.le_of_ble_eq_true rfl) rfl rfl ?_
  rw [hup3 n15_mo]
  refine V.eq (h := hup (hup (hup (hup (hup (hup (hup (hup (hup (hup h a2 (.inl (.int, 33, .inl (fun _ => 0)))) a3 (.inl (.int, 231, .inl (fun _ => 0)))) a4 (.inl (.boolean, 33, .inl (fun _ => 0)))) a6 (.inl (.int, 1799, .inl (fun _ => 0)))) a8 (.inl (.byte, 20000, .inl (fun _ => 0)))) a9 (.inl (.int, 7, .inl mDr0))) a10 (.inl (.int, 14, .inl mWi0))) a11 (.inl (.int, 2, .inl mPi0))) a15 (.inl (.int, 5, .inl (fun _ => 0)))) mo (.inr (5, [.int 0, .int 0, .ref a2, .ref a3, .ref a4, .int 0, .ref a6, .int 0, .ref a8, .ref a9, .ref a10, .ref a11, .int 0, .int 0, .int 0, .ref a15, .int 0, .int 0, .null, .null]))) ?_ rfl rfl rfl rfl
  refine v_aload_n 196 dX4_init_196 rfl rfl ?_
  refine v_sipush (v := 2048) 197 dX4_init_197 (by decide) ?_
  refine v_newa (ty := .byte) (N := 2048) (x := (2048, .inl (fun _ => 0))) 200 dX4_init_200 aw_byte rfl (fun _ => rfl) (by decide) (by decide) (by decide) ?_
  intro a18 hf18 hk18
  obtain ⟨n18_mo, g18⟩ := hup_none hf18
  obtain ⟨n18_15, g18⟩ := hup_none g18
  obtain ⟨n18_11, g18⟩ := hup_none g18
  obtain ⟨n18_10, g18⟩ := hup_none g18
  obtain ⟨n18_9, g18⟩ := hup_none g18
  obtain ⟨n18_8, g18⟩ := hup_none g18
  obtain ⟨n18_6, g18⟩ := hup_none g18
  obtain ⟨n18_4, g18⟩ := hup_none g18
  obtain ⟨n18_3, g18⟩ := hup_none g18
  obtain ⟨n18_2, g18⟩ := hup_none g18
  refine v_putF 202 dX4_init_202 fl_X4_39 rfl ((hup_n (Ne.symm n18_mo)).trans (hup_s _ _ _)) (Nat.le_of_ble_eq_true rfl) rfl rfl ?_
  rw [hup3 n18_mo]
  refine V.eq (h := hup (hup (hup (hup (hup (hup (hup (hup (hup (hup (hup h a2 (.inl (.int, 33, .inl (fun _ => 0)))) a3 (.inl (.int, 231, .inl (fun _ => 0)))) a4 (.inl (.boolean, 33, .inl (fun _ => 0)))) a6 (.inl (.int, 1799, .inl (fun _ => 0)))) a8 (.inl (.byte, 20000, .inl (fun _ => 0)))) a9 (.inl (.int, 7, .inl mDr0))) a10 (.inl (.int, 14, .inl mWi0))) a11 (.inl (.int, 2, .inl mPi0))) a15 (.inl (.int, 5, .inl (fun _ => 0)))) a18 (.inl (.byte, 2048, .inl (fun _ => 0)))) mo (.inr (5, [.int 0, .int 0, .ref a2, .ref a3, .ref a4, .int 0, .ref a6, .int 0, .ref a8, .ref a9, .ref a10, .ref a11, .int 0, .int 0, .int 0, .ref a15, .int 0, .int 0, .ref a18, .null]))) ?_ rfl rfl rfl rfl
  refine v_aload_n 205 dX4_init_205 rfl rfl ?_
  refine v_bipush (v := 32) 206 dX4_init_206 (by decide) ?_
  refine v_newa (ty := .boolean) (N := 32) (x := (32, .inl (fun _ => 0))) 208 dX4_init_208 aw_bool rfl (fun _ => rfl) (by decide) (by decide) (by decide) ?_
  intro a19 hf19 hk19
  obtain ⟨n19_mo, g19⟩ := hup_none hf19
  obtain ⟨n19_18, g19⟩ := hup_none g19
  obtain ⟨n19_15, g19⟩ := hup_none g19
  obtain ⟨n19_11, g19⟩ := hup_none g19
  obtain ⟨n19_10, g19⟩ := hup_none g19
  obtain ⟨n19_9, g19⟩ := hup_none g19
  obtain ⟨n19_8, g19⟩ := hup_none g19
  obtain ⟨n19_6, g19⟩ := hup_none g19
  obtain ⟨n19_4, g19⟩ := hup_none g19
  obtain ⟨n19_3, g19⟩ := hup_none g19
  obtain ⟨n19_2, g19⟩ := hup_none g19
  refine v_putF 210 dX4_init_210 fl_X4_42 rfl ((hup_n (Ne.symm n19_mo)).trans (hup_s _ _ _)) (Nat.le_of_ble_eq_true rfl) rfl rfl ?_
  rw [hup3 n19_mo]
  refine V.eq (h := hup (hup (hup (hup (hup (hup (hup (hup (hup (hup (hup (hup h a2 (.inl (.int, 33, .inl (fun _ => 0)))) a3 (.inl (.int, 231, .inl (fun _ => 0)))) a4 (.inl (.boolean, 33, .inl (fun _ => 0)))) a6 (.inl (.int, 1799, .inl (fun _ => 0)))) a8 (.inl (.byte, 20000, .inl (fun _ => 0)))) a9 (.inl (.int, 7, .inl mDr0))) a10 (.inl (.int, 14, .inl mWi0))) a11 (.inl (.int, 2, .inl mPi0))) a15 (.inl (.int, 5, .inl (fun _ => 0)))) a18 (.inl (.byte, 2048, .inl (fun _ => 0)))) a19 (.inl (.boolean, 32, .inl (fun _ => 0)))) mo (.inr (5, [.int 0, .int 0, .ref a2, .ref a3, .ref a4, .int 0, .ref a6, .int 0, .ref a8, .ref a9, .ref a10, .ref a11, .int 0, .int 0, .int 0, .ref a15, .int 0, .int 0, .ref a18, .ref a19]))) ?_ rfl rfl rfl rfl
  refine v_vret 213 dX4_init_213 rfl ?_
  refine ⟨rfl, fun k => if k = 2 then a2 else if k = 3 then a3 else if k = 4 then a4 else if k = 6 then a6 else if k = 8 then a8 else if k = 9 then a9 else if k = 10 then a10 else if k = 11 then a11 else if k = 15 then a15 else if k = 18 then a18 else if k = 19 then a19 else 0, ?_, ?_, ?_⟩
  · refine ⟨?_, ?_⟩
    · intro k hk
      simp only [mKs, List.mem_cons, List.not_mem_nil, or_false] at hk
      rcases hk with rfl | rfl | rfl | rfl | rfl | rfl | rfl | rfl | rfl | rfl | rfl
      · exact n2_mo
      · exact n3_mo
      · exact n4_mo
      · exact n6_mo
      · exact n8_mo
      · exact n9_mo
      · exact n10_mo
      · exact n11_mo
      · exact n15_mo
      · exact n18_mo
      · exact n19_mo
    · intro j hj k hk he
      simp only [mKs, List.mem_cons, List.not_mem_nil, or_false] at hj hk
      rcases hj with rfl | rfl | rfl | rfl | rfl | rfl | rfl | rfl | rfl | rfl | rfl
      · rcases hk with rfl | rfl | rfl | rfl | rfl | rfl | rfl | rfl | rfl | rfl | rfl
        · exact rfl
        · exact absurd he.symm n3_2
        · exact absurd he.symm n4_2
        · exact absurd he.symm n6_2
        · exact absurd he.symm n8_2
        · exact absurd he.symm n9_2
        · exact absurd he.symm n10_2
        · exact absurd he.symm n11_2
        · exact absurd he.symm n15_2
        · exact absurd he.symm n18_2
        · exact absurd he.symm n19_2
      · rcases hk with rfl | rfl | rfl | rfl | rfl | rfl | rfl | rfl | rfl | rfl | rfl
        · exact absurd he n3_2
        · exact rfl
        · exact absurd he.symm n4_3
        · exact absurd he.symm n6_3
        · exact absurd he.symm n8_3
        · exact absurd he.symm n9_3
        · exact absurd he.symm n10_3
        · exact absurd he.symm n11_3
        · exact absurd he.symm n15_3
        · exact absurd he.symm n18_3
        · exact absurd he.symm n19_3
      · rcases hk with rfl | rfl | rfl | rfl | rfl | rfl | rfl | rfl | rfl | rfl | rfl
        · exact absurd he n4_2
        · exact absurd he n4_3
        · exact rfl
        · exact absurd he.symm n6_4
        · exact absurd he.symm n8_4
        · exact absurd he.symm n9_4
        · exact absurd he.symm n10_4
        · exact absurd he.symm n11_4
        · exact absurd he.symm n15_4
        · exact absurd he.symm n18_4
        · exact absurd he.symm n19_4
      · rcases hk with rfl | rfl | rfl | rfl | rfl | rfl | rfl | rfl | rfl | rfl | rfl
        · exact absurd he n6_2
        · exact absurd he n6_3
        · exact absurd he n6_4
        · exact rfl
        · exact absurd he.symm n8_6
        · exact absurd he.symm n9_6
        · exact absurd he.symm n10_6
        · exact absurd he.symm n11_6
        · exact absurd he.symm n15_6
        · exact absurd he.symm n18_6
        · exact absurd he.symm n19_6
      · rcases hk with rfl | rfl | rfl | rfl | rfl | rfl | rfl | rfl | rfl | rfl | rfl
        · exact absurd he n8_2
        · exact absurd he n8_3
        · exact absurd he n8_4
        · exact absurd he n8_6
        · exact rfl
        · exact absurd he.symm n9_8
        · exact absurd he.symm n10_8
        · exact absurd he.symm n11_8
        · exact absurd he.symm n15_8
        · exact absurd he.symm n18_8
        · exact absurd he.symm n19_8
      · rcases hk with rfl | rfl | rfl | rfl | rfl | rfl | rfl | rfl | rfl | rfl | rfl
        · exact absurd he n9_2
        · exact absurd he n9_3
        · exact absurd he n9_4
        · exact absurd he n9_6
        · exact absurd he n9_8
        · exact rfl
        · exact absurd he.symm n10_9
        · exact absurd he.symm n11_9
        · exact absurd he.symm n15_9
        · exact absurd he.symm n18_9
        · exact absurd he.symm n19_9
      · rcases hk with rfl | rfl | rfl | rfl | rfl | rfl | rfl | rfl | rfl | rfl | rfl
        · exact absurd he n10_2
        · exact absurd he n10_3
        · exact absurd he n10_4
        · exact absurd he n10_6
        · exact absurd he n10_8
        · exact absurd he n10_9
        · exact rfl
        · exact absurd he.symm n11_10
        · exact absurd he.symm n15_10
        · exact absurd he.symm n18_10
        · exact absurd he.symm n19_10
      · rcases hk with rfl | rfl | rfl | rfl | rfl | rfl | rfl | rfl | rfl | rfl | rfl
        · exact absurd he n11_2
        · exact absurd he n11_3
        · exact absurd he n11_4
        · exact absurd he n11_6
        · exact absurd he n11_8
        · exact absurd he n11_9
        · exact absurd he n11_10
        · exact rfl
        · exact absurd he.symm n15_11
        · exact absurd he.symm n18_11
        · exact absurd he.symm n19_11
      · rcases hk with rfl | rfl | rfl | rfl | rfl | rfl | rfl | rfl | rfl | rfl | rfl
        · exact absurd he n15_2
        · exact absurd he n15_3
        · exact absurd he n15_4
        · exact absurd he n15_6
        · exact absurd he n15_8
        · exact absurd he n15_9
        · exact absurd he n15_10
        · exact absurd he n15_11
        · exact rfl
        · exact absurd he.symm n18_15
        · exact absurd he.symm n19_15
      · rcases hk with rfl | rfl | rfl | rfl | rfl | rfl | rfl | rfl | rfl | rfl | rfl
        · exact absurd he n18_2
        · exact absurd he n18_3
        · exact absurd he n18_4
        · exact absurd he n18_6
        · exact absurd he n18_8
        · exact absurd he n18_9
        · exact absurd he n18_10
        · exact absurd he n18_11
        · exact absurd he n18_15
        · exact rfl
        · exact absurd he.symm n19_18
      · rcases hk with rfl | rfl | rfl | rfl | rfl | rfl | rfl | rfl | rfl | rfl | rfl
        · exact absurd he n19_2
        · exact absurd he n19_3
        · exact absurd he n19_4
        · exact absurd he n19_6
        · exact absurd he n19_8
        · exact absurd he n19_9
        · exact absurd he n19_10
        · exact absurd he n19_11
        · exact absurd he n19_15
        · exact absurd he n19_18
        · exact rfl
  · intro k hk
    simp only [mKs, List.mem_cons, List.not_mem_nil, or_false] at hk
    rcases hk with rfl | rfl | rfl | rfl | rfl | rfl | rfl | rfl | rfl | rfl | rfl
    · exact g2
    · exact g3
    · exact g4
    · exact g6
    · exact g8
    · exact g9
    · exact g10
    · exact g11
    · exact g15
    · exact g18
    · exact g19
  · funext q
    unfold mPut
    by_cases hq : q = mo
    · rw [if_pos hq, hq, hup_s]; rfl
    · rw [if_neg hq, hup_n hq]
      by_cases hq19 : q = a19
      · subst hq19
        rw [hup_s]
        have hfd : mKs.find? (fun k => (fun k => if k = 2 then a2 else if k = 3 then a3 else if k = 4 then a4 else if k = 6 then a6 else if k = 8 then a8 else if k = 9 then a9 else if k = 10 then a10 else if k = 11 then a11 else if k = 15 then a15 else if k = 18 then a18 else if k = 19 then q else 0) k == q) = some 19 := by
          simp only [mKs]
          rw [List.find?_cons_of_neg (by show ¬ (a2 == q) = true; rw [beq_iff_eq]; exact fun x => n19_2 x.symm)]
          rw [List.find?_cons_of_neg (by show ¬ (a3 == q) = true; rw [beq_iff_eq]; exact fun x => n19_3 x.symm)]
          rw [List.find?_cons_of_neg (by show ¬ (a4 == q) = true; rw [beq_iff_eq]; exact fun x => n19_4 x.symm)]
          rw [List.find?_cons_of_neg (by show ¬ (a6 == q) = true; rw [beq_iff_eq]; exact fun x => n19_6 x.symm)]
          rw [List.find?_cons_of_neg (by show ¬ (a8 == q) = true; rw [beq_iff_eq]; exact fun x => n19_8 x.symm)]
          rw [List.find?_cons_of_neg (by show ¬ (a9 == q) = true; rw [beq_iff_eq]; exact fun x => n19_9 x.symm)]
          rw [List.find?_cons_of_neg (by show ¬ (a10 == q) = true; rw [beq_iff_eq]; exact fun x => n19_10 x.symm)]
          rw [List.find?_cons_of_neg (by show ¬ (a11 == q) = true; rw [beq_iff_eq]; exact fun x => n19_11 x.symm)]
          rw [List.find?_cons_of_neg (by show ¬ (a15 == q) = true; rw [beq_iff_eq]; exact fun x => n19_15 x.symm)]
          rw [List.find?_cons_of_neg (by show ¬ (a18 == q) = true; rw [beq_iff_eq]; exact fun x => n19_18 x.symm)]
          exact List.find?_cons_of_pos (by show (q == q) = true; exact beq_self_eq_true q)
        rw [hfd]; rfl
      rw [hup_n hq19]
      by_cases hq18 : q = a18
      · subst hq18
        rw [hup_s]
        have hfd : mKs.find? (fun k => (fun k => if k = 2 then a2 else if k = 3 then a3 else if k = 4 then a4 else if k = 6 then a6 else if k = 8 then a8 else if k = 9 then a9 else if k = 10 then a10 else if k = 11 then a11 else if k = 15 then a15 else if k = 18 then q else if k = 19 then a19 else 0) k == q) = some 18 := by
          simp only [mKs]
          rw [List.find?_cons_of_neg (by show ¬ (a2 == q) = true; rw [beq_iff_eq]; exact fun x => n18_2 x.symm)]
          rw [List.find?_cons_of_neg (by show ¬ (a3 == q) = true; rw [beq_iff_eq]; exact fun x => n18_3 x.symm)]
          rw [List.find?_cons_of_neg (by show ¬ (a4 == q) = true; rw [beq_iff_eq]; exact fun x => n18_4 x.symm)]
          rw [List.find?_cons_of_neg (by show ¬ (a6 == q) = true; rw [beq_iff_eq]; exact fun x => n18_6 x.symm)]
          rw [List.find?_cons_of_neg (by show ¬ (a8 == q) = true; rw [beq_iff_eq]; exact fun x => n18_8 x.symm)]
          rw [List.find?_cons_of_neg (by show ¬ (a9 == q) = true; rw [beq_iff_eq]; exact fun x => n18_9 x.symm)]
          rw [List.find?_cons_of_neg (by show ¬ (a10 == q) = true; rw [beq_iff_eq]; exact fun x => n18_10 x.symm)]
          rw [List.find?_cons_of_neg (by show ¬ (a11 == q) = true; rw [beq_iff_eq]; exact fun x => n18_11 x.symm)]
          rw [List.find?_cons_of_neg (by show ¬ (a15 == q) = true; rw [beq_iff_eq]; exact fun x => n18_15 x.symm)]
          exact List.find?_cons_of_pos (by show (q == q) = true; exact beq_self_eq_true q)
        rw [hfd]; rfl
      rw [hup_n hq18]
      by_cases hq15 : q = a15
      · subst hq15
        rw [hup_s]
        have hfd : mKs.find? (fun k => (fun k => if k = 2 then a2 else if k = 3 then a3 else if k = 4 then a4 else if k = 6 then a6 else if k = 8 then a8 else if k = 9 then a9 else if k = 10 then a10 else if k = 11 then a11 else if k = 15 then q else if k = 18 then a18 else if k = 19 then a19 else 0) k == q) = some 15 := by
          simp only [mKs]
          rw [List.find?_cons_of_neg (by show ¬ (a2 == q) = true; rw [beq_iff_eq]; exact fun x => n15_2 x.symm)]
          rw [List.find?_cons_of_neg (by show ¬ (a3 == q) = true; rw [beq_iff_eq]; exact fun x => n15_3 x.symm)]
          rw [List.find?_cons_of_neg (by show ¬ (a4 == q) = true; rw [beq_iff_eq]; exact fun x => n15_4 x.symm)]
          rw [List.find?_cons_of_neg (by show ¬ (a6 == q) = true; rw [beq_iff_eq]; exact fun x => n15_6 x.symm)]
          rw [List.find?_cons_of_neg (by show ¬ (a8 == q) = true; rw [beq_iff_eq]; exact fun x => n15_8 x.symm)]
          rw [List.find?_cons_of_neg (by show ¬ (a9 == q) = true; rw [beq_iff_eq]; exact fun x => n15_9 x.symm)]
          rw [List.find?_cons_of_neg (by show ¬ (a10 == q) = true; rw [beq_iff_eq]; exact fun x => n15_10 x.symm)]
          rw [List.find?_cons_of_neg (by show ¬ (a11 == q) = true; rw [beq_iff_eq]; exact fun x => n15_11 x.symm)]
          exact List.find?_cons_of_pos (by show (q == q) = true; exact beq_self_eq_true q)
        rw [hfd]; rfl
      rw [hup_n hq15]
      by_cases hq11 : q = a11
      · subst hq11
        rw [hup_s]
        have hfd : mKs.find? (fun k => (fun k => if k = 2 then a2 else if k = 3 then a3 else if k = 4 then a4 else if k = 6 then a6 else if k = 8 then a8 else if k = 9 then a9 else if k = 10 then a10 else if k = 11 then q else if k = 15 then a15 else if k = 18 then a18 else if k = 19 then a19 else 0) k == q) = some 11 := by
          simp only [mKs]
          rw [List.find?_cons_of_neg (by show ¬ (a2 == q) = true; rw [beq_iff_eq]; exact fun x => n11_2 x.symm)]
          rw [List.find?_cons_of_neg (by show ¬ (a3 == q) = true; rw [beq_iff_eq]; exact fun x => n11_3 x.symm)]
          rw [List.find?_cons_of_neg (by show ¬ (a4 == q) = true; rw [beq_iff_eq]; exact fun x => n11_4 x.symm)]
          rw [List.find?_cons_of_neg (by show ¬ (a6 == q) = true; rw [beq_iff_eq]; exact fun x => n11_6 x.symm)]
          rw [List.find?_cons_of_neg (by show ¬ (a8 == q) = true; rw [beq_iff_eq]; exact fun x => n11_8 x.symm)]
          rw [List.find?_cons_of_neg (by show ¬ (a9 == q) = true; rw [beq_iff_eq]; exact fun x => n11_9 x.symm)]
          rw [List.find?_cons_of_neg (by show ¬ (a10 == q) = true; rw [beq_iff_eq]; exact fun x => n11_10 x.symm)]
          exact List.find?_cons_of_pos (by show (q == q) = true; exact beq_self_eq_true q)
        rw [hfd]; rfl
      rw [hup_n hq11]
      by_cases hq10 : q = a10
      · subst hq10
        rw [hup_s]
        have hfd : mKs.find? (fun k => (fun k => if k = 2 then a2 else if k = 3 then a3 else if k = 4 then a4 else if k = 6 then a6 else if k = 8 then a8 else if k = 9 then a9 else if k = 10 then q else if k = 11 then a11 else if k = 15 then a15 else if k = 18 then a18 else if k = 19 then a19 else 0) k == q) = some 10 := by
          simp only [mKs]
          rw [List.find?_cons_of_neg (by show ¬ (a2 == q) = true; rw [beq_iff_eq]; exact fun x => n10_2 x.symm)]
          rw [List.find?_cons_of_neg (by show ¬ (a3 == q) = true; rw [beq_iff_eq]; exact fun x => n10_3 x.symm)]
          rw [List.find?_cons_of_neg (by show ¬ (a4 == q) = true; rw [beq_iff_eq]; exact fun x => n10_4 x.symm)]
          rw [List.find?_cons_of_neg (by show ¬ (a6 == q) = true; rw [beq_iff_eq]; exact fun x => n10_6 x.symm)]
          rw [List.find?_cons_of_neg (by show ¬ (a8 == q) = true; rw [beq_iff_eq]; exact fun x => n10_8 x.symm)]
          rw [List.find?_cons_of_neg (by show ¬ (a9 == q) = true; rw [beq_iff_eq]; exact fun x => n10_9 x.symm)]
          exact List.find?_cons_of_pos (by show (q == q) = true; exact beq_self_eq_true q)
        rw [hfd]; rfl
      rw [hup_n hq10]
      by_cases hq9 : q = a9
      · subst hq9
        rw [hup_s]
        have hfd : mKs.find? (fun k => (fun k => if k = 2 then a2 else if k = 3 then a3 else if k = 4 then a4 else if k = 6 then a6 else if k = 8 then a8 else if k = 9 then q else if k = 10 then a10 else if k = 11 then a11 else if k = 15 then a15 else if k = 18 then a18 else if k = 19 then a19 else 0) k == q) = some 9 := by
          simp only [mKs]
          rw [List.find?_cons_of_neg (by show ¬ (a2 == q) = true; rw [beq_iff_eq]; exact fun x => n9_2 x.symm)]
          rw [List.find?_cons_of_neg (by show ¬ (a3 == q) = true; rw [beq_iff_eq]; exact fun x => n9_3 x.symm)]
          rw [List.find?_cons_of_neg (by show ¬ (a4 == q) = true; rw [beq_iff_eq]; exact fun x => n9_4 x.symm)]
          rw [List.find?_cons_of_neg (by show ¬ (a6 == q) = true; rw [beq_iff_eq]; exact fun x => n9_6 x.symm)]
          rw [List.find?_cons_of_neg (by show ¬ (a8 == q) = true; rw [beq_iff_eq]; exact fun x => n9_8 x.symm)]
          exact List.find?_cons_of_pos (by show (q == q) = true; exact beq_self_eq_true q)
        rw [hfd]; rfl
      rw [hup_n hq9]
      by_cases hq8 : q = a8
      · subst hq8
        rw [hup_s]
        have hfd : mKs.find? (fun k => (fun k => if k = 2 then a2 else if k = 3 then a3 else if k = 4 then a4 else if k = 6 then a6 else if k = 8 then q else if k = 9 then a9 else if k = 10 then a10 else if k = 11 then a11 else if k = 15 then a15 else if k = 18 then a18 else if k = 19 then a19 else 0) k == q) = some 8 := by
          simp only [mKs]
          rw [List.find?_cons_of_neg (by show ¬ (a2 == q) = true; rw [beq_iff_eq]; exact fun x => n8_2 x.symm)]
          rw [List.find?_cons_of_neg (by show ¬ (a3 == q) = true; rw [beq_iff_eq]; exact fun x => n8_3 x.symm)]
          rw [List.find?_cons_of_neg (by show ¬ (a4 == q) = true; rw [beq_iff_eq]; exact fun x => n8_4 x.symm)]
          rw [List.find?_cons_of_neg (by show ¬ (a6 == q) = true; rw [beq_iff_eq]; exact fun x => n8_6 x.symm)]
          exact List.find?_cons_of_pos (by show (q == q) = true; exact beq_self_eq_true q)
        rw [hfd]; rfl
      rw [hup_n hq8]
      by_cases hq6 : q = a6
      · subst hq6
        rw [hup_s]
        have hfd : mKs.find? (fun k => (fun k => if k = 2 then a2 else if k = 3 then a3 else if k = 4 then a4 else if k = 6 then q else if k = 8 then a8 else if k = 9 then a9 else if k = 10 then a10 else if k = 11 then a11 else if k = 15 then a15 else if k = 18 then a18 else if k = 19 then a19 else 0) k == q) = some 6 := by
          simp only [mKs]
          rw [List.find?_cons_of_neg (by show ¬ (a2 == q) = true; rw [beq_iff_eq]; exact fun x => n6_2 x.symm)]
          rw [List.find?_cons_of_neg (by show ¬ (a3 == q) = true; rw [beq_iff_eq]; exact fun x => n6_3 x.symm)]
          rw [List.find?_cons_of_neg (by show ¬ (a4 == q) = true; rw [beq_iff_eq]; exact fun x => n6_4 x.symm)]
          exact List.find?_cons_of_pos (by show (q == q) = true; exact beq_self_eq_true q)
        rw [hfd]; rfl
      rw [hup_n hq6]
      by_cases hq4 : q = a4
      · subst hq4
        rw [hup_s]
        have hfd : mKs.find? (fun k => (fun k => if k = 2 then a2 else if k = 3 then a3 else if k = 4 then q else if k = 6 then a6 else if k = 8 then a8 else if k = 9 then a9 else if k = 10 then a10 else if k = 11 then a11 else if k = 15 then a15 else if k = 18 then a18 else if k = 19 then a19 else 0) k == q) = some 4 := by
          simp only [mKs]
          rw [List.find?_cons_of_neg (by show ¬ (a2 == q) = true; rw [beq_iff_eq]; exact fun x => n4_2 x.symm)]
          rw [List.find?_cons_of_neg (by show ¬ (a3 == q) = true; rw [beq_iff_eq]; exact fun x => n4_3 x.symm)]
          exact List.find?_cons_of_pos (by show (q == q) = true; exact beq_self_eq_true q)
        rw [hfd]; rfl
      rw [hup_n hq4]
      by_cases hq3 : q = a3
      · subst hq3
        rw [hup_s]
        have hfd : mKs.find? (fun k => (fun k => if k = 2 then a2 else if k = 3 then q else if k = 4 then a4 else if k = 6 then a6 else if k = 8 then a8 else if k = 9 then a9 else if k = 10 then a10 else if k = 11 then a11 else if k = 15 then a15 else if k = 18 then a18 else if k = 19 then a19 else 0) k == q) = some 3 := by
          simp only [mKs]
          rw [List.find?_cons_of_neg (by show ¬ (a2 == q) = true; rw [beq_iff_eq]; exact fun x => n3_2 x.symm)]
          exact List.find?_cons_of_pos (by show (q == q) = true; exact beq_self_eq_true q)
        rw [hfd]; rfl
      rw [hup_n hq3]
      by_cases hq2 : q = a2
      · subst hq2
        rw [hup_s]
        have hfd : mKs.find? (fun k => (fun k => if k = 2 then q else if k = 3 then a3 else if k = 4 then a4 else if k = 6 then a6 else if k = 8 then a8 else if k = 9 then a9 else if k = 10 then a10 else if k = 11 then a11 else if k = 15 then a15 else if k = 18 then a18 else if k = 19 then a19 else 0) k == q) = some 2 := by
          simp only [mKs]
          exact List.find?_cons_of_pos (by show (q == q) = true; exact beq_self_eq_true q)
        rw [hfd]; rfl
      rw [hup_n hq2]
      have hfd : mKs.find? (fun k => (fun k => if k = 2 then a2 else if k = 3 then a3 else if k = 4 then a4 else if k = 6 then a6 else if k = 8 then a8 else if k = 9 then a9 else if k = 10 then a10 else if k = 11 then a11 else if k = 15 then a15 else if k = 18 then a18 else if k = 19 then a19 else 0) k == q) = none := by
        simp only [mKs]
        rw [List.find?_cons_of_neg (by show ¬ (a2 == q) = true; rw [beq_iff_eq]; exact fun x => hq2 x.symm)]
        rw [List.find?_cons_of_neg (by show ¬ (a3 == q) = true; rw [beq_iff_eq]; exact fun x => hq3 x.symm)]
        rw [List.find?_cons_of_neg (by show ¬ (a4 == q) = true; rw [beq_iff_eq]; exact fun x => hq4 x.symm)]
        rw [List.find?_cons_of_neg (by show ¬ (a6 == q) = true; rw [beq_iff_eq]; exact fun x => hq6 x.symm)]
        rw [List.find?_cons_of_neg (by show ¬ (a8 == q) = true; rw [beq_iff_eq]; exact fun x => hq8 x.symm)]
        rw [List.find?_cons_of_neg (by show ¬ (a9 == q) = true; rw [beq_iff_eq]; exact fun x => hq9 x.symm)]
        rw [List.find?_cons_of_neg (by show ¬ (a10 == q) = true; rw [beq_iff_eq]; exact fun x => hq10 x.symm)]
        rw [List.find?_cons_of_neg (by show ¬ (a11 == q) = true; rw [beq_iff_eq]; exact fun x => hq11 x.symm)]
        rw [List.find?_cons_of_neg (by show ¬ (a15 == q) = true; rw [beq_iff_eq]; exact fun x => hq15 x.symm)]
        rw [List.find?_cons_of_neg (by show ¬ (a18 == q) = true; rw [beq_iff_eq]; exact fun x => hq18 x.symm)]
        rw [List.find?_cons_of_neg (by show ¬ (a19 == q) = true; rw [beq_iff_eq]; exact fun x => hq19 x.symm)]
        rfl
      rw [hfd]

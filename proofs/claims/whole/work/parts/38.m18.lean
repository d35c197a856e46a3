def cgI (S : MS) (F G b : Nat) (c : Int32) : Int32 := if 0 ≤ chI S F b then lastG (S.2 6) (S.2 2 (chI S F b).toNatClampNeg) c G else -1
theorem lastG_rng {f : Nat → Int32} {x c : Int32} : ∀ G : Nat, lastG f x c G = -1 ∨ ∃ k, k < G ∧ lastG f x c G = nI k
  | 0 => Or.inl rfl
  | k + 1 => by
    rw [lastG]
    split
    · exact Or.inr ⟨k, by omega, rfl⟩
    · rcases lastG_rng (f := f) (x := x) (c := c) k with h1 | ⟨j, h1, h2⟩
      · exact Or.inl h1
      · exact Or.inr ⟨j, by omega, h2⟩
theorem cgI_rng (S : MS) (F G b : Nat) (c : Int32) : cgI S F G b c = -1 ∨ ∃ k, k < G ∧ cgI S F G b c = nI k := by
  unfold cgI
  split
  · exact lastG_rng G
  · exact Or.inl rfl
/-- is dot x of row y black? -/
def blk (q : GL) (W x y : Nat) : Bool := decide ((((q.2[(W + 7) / 8 * y + x / 8]?).getD 0) >>> ((7 - nI (x % 8)) &&& 31)) &&& 1 = 1)
theorem gRep_b {S : MS} {L : List GL} (hR : gRep S L) {g i : Nat} {q : GL} (hg : L[g]? = some q) (hi : i < q.2.length) : (flatB (L.take g)).length + i < 16384 ∧ S.2 8 ((flatB (L.take g)).length + i) = (q.2[i]?).getD 0 := by
  have hgl : g < L.length := (List.getElem?_eq_some_iff.mp hg).1
  obtain ⟨L1, L2, q', rfl, rfl, hq⟩ := split_at hgl
  have hqq : q' = q := by rw [hg] at hq; exact (Option.some.inj hq).symm
  subst hqq
  rw [List.take_left]
  have hfl : (flatB (L1 ++ q' :: L2)).length = (flatB L1).length + q'.2.length + (flatB L2).length := by rw [flatB_split]; simp; omega
  have h6 := hR.2.2.2.2.2.1
  refine ⟨by omega, ?_⟩
  refine hR.2.2.2.2.2.2 _ _ ?_
  rw [flatB_split, List.getElem?_append_right (by omega), Nat.add_sub_cancel_left, List.getElem?_append_left hi, List.getElem?_eq_getElem hi]
  rfl
theorem blk_ix {W D x y : Nat} (hx : x < W) (hy : y < D) : (W + 7) / 8 * y + x / 8 < D * ((W + 7) / 8) := by
  have h1 : x / 8 < (W + 7) / 8 := by omega
  calc (W + 7) / 8 * y + x / 8 < (W + 7) / 8 * y + (W + 7) / 8 := by omega
    _ = (W + 7) / 8 * (y + 1) := by rw [Nat.mul_succ]
    _ ≤ (W + 7) / 8 * D := Nat.mul_le_mul_left _ hy
    _ = D * ((W + 7) / 8) := Nat.mul_comm _ _
def blX (q : GL) (W y : Nat) : Nat → Int32
  | 0 => 0
  | x + 1 => blX q W y x + bI (blk q W x y)
def blY (q : GL) (W : Nat) : Nat → Int32
  | 0 => 0
  | y + 1 => blY q W y + blX q W y W
def ofR (S : MS) (F : Nat) (L : List GL) (which c w : Int32) (S' : MS) (r : Int32) : Prop :=
  ((¬ (which = 0 ∨ which = 1) ∨ w < 0 ∨ ¬ w ≤ 5) ∧ r = 0 ∧ S' = mI S 0 1) ∨
  (¬ w < 0 ∧ w ≤ 5 ∧ ∃ b : Nat, b < 2 ∧ which = nI b ∧
    ((cgI S F L.length b c = -1 ∧ r = 0 ∧ ∃ f, S' = mI (mA S 19 f) 0 2) ∨
     (∃ (g : Nat) (q : GL), cgI S F L.length b c = nI g ∧ L[g]? = some q ∧ (∃ f, S' = mI (mA S 19 f) 0 0) ∧
       ((¬ 5 ≤ w ∧ r = q.1 (2 + w.toNatClampNeg)) ∨ (w = 5 ∧ ∃ W D : Nat, q.1 4 = nI W ∧ q.1 5 = nI D ∧ W ≤ 128 ∧ D ≤ 128 ∧ r = blY q W D)))))
def roI (q : GL) (W j : Nat) (k : Int32) : Nat → Int64
  | 0 => 0
  | i + 1 => (roI q W j k i <<< 1) ||| (if ¬ k < 0 ∧ ¬ 2 ≤ k ∧ ¬ nI W ≤ 64 * k + nI i ∧ blk q W (64 * k + nI i).toNatClampNeg j = true then 1 else 0)
def rowR (S : MS) (F : Nat) (L : List GL) (which c j k : Int32) (S' : MS) (r : Int64) : Prop :=
  (¬ (which = 0 ∨ which = 1) ∧ r = 0 ∧ S' = mI S 0 0) ∨
  (∃ b : Nat, b < 2 ∧ which = nI b ∧ (∃ f, S' = mA (mI S 0 0) 19 f) ∧
    ((cgI S F L.length b c = -1 ∧ r = 0) ∨
     (∃ (g : Nat) (q : GL) (W D : Nat), cgI S F L.length b c = nI g ∧ L[g]? = some q ∧ q.1 4 = nI W ∧ q.1 5 = nI D ∧ W ≤ 128 ∧ D ≤ 128 ∧
       (((j < 0 ∨ nI D ≤ j) ∧ r = 0) ∨ (∃ y : Nat, j = nI y ∧ y < D ∧ r = roI q W y k 64)))))
def chosR (S : MS) (F : Nat) (which : Int32) (S' : MS) (r : Int32) : Prop :=
  (¬ (which = 0 ∨ which = 1) ∧ r = -1 ∧ S' = mI S 0 0) ∨
  (∃ b : Nat, b < 2 ∧ which = nI b ∧ (∃ f, S' = mA (mI S 0 0) 19 f) ∧ r = if 0 ≤ chI S F b then S.2 2 (chI S F b).toNatClampNeg else -1)
set_option maxHeartbeats 4000000 in
set_option maxRecDepth 100000 in
theorem ct_chosen {K : KT} {h : AH} {mo : Nat} {ad : Nat → Nat} {S : MS} {F : Nat} {which : Int32} (hds : mDis mo ad) (hF : S.1 1 = nI F) (hF2 : F ≤ 32) : Ct K mX4_chosen 0 0 [.ref mo, .int which] (mPut h mo ad S) (fun r h' => ∃ (v : Int32) (S' : MS), r = some (.int v) ∧ h' = mPut h mo ad S' ∧ chosR S F which S' v) noX := by
  refine ct_of (by decide +kernel) rfl (Nat.le_of_ble_eq_true rfl) rfl ?_
  refine v_aload_n 0 dX4_chosen_0 rfl rfl ?_
  refine v_iconst (v := 0) 1 dX4_chosen_1 (by decide) ?_
  refine m_put 2 dX4_chosen_2 fl_X4_45 ?_
  refine v_iload_n 5 dX4_chosen_5 rfl rfl ?_
  refine v_if_eq (tgt := 16) 6 dX4_chosen_6 (by decide) (fun c6 => ?_) (fun c6 => ?_)
  · obtain ⟨b, hb, rfl⟩ : ∃ b : Nat, b < 2 ∧ which = nI b := by
      first
        | exact ⟨0, by decide, c6⟩
        | exact ⟨1, by decide, c11⟩
    have hix : 0 ≤ chI S F b → vp_in (chI S F b) 33 := by
      intro hp
      rcases chI_rng S F b with e | ⟨k, hk, e⟩
      · rw [e] at hp; exact absurd hp (by decide)
      · rw [e]; exact vp_in_nI (N := 33) (by omega) (by decide)
    refine v_aload_n 16 dX4_chosen_16 rfl rfl ?_
    refine v_iload_n 17 dX4_chosen_17 rfl rfl ?_
    refine m_call 18 [.int (nI b)] dX4_chosen_18 cv_X4_126 (ct_choose (S := mI S 0 0) (F := F) hds hF hF2 hb) (fun r h' hq' => ?_)
    obtain ⟨rfl, f, rfl⟩ := hq'
    show V _ _ 21 _ [.int (chI S F b)] _ _ _ _ _
    refine v_ist2 21 dX4_chosen_21 ?_
    refine v_iload_n 22 dX4_chosen_22 rfl rfl ?_
    refine v_if_ge (tgt := 30) 23 dX4_chosen_23 (by decide) (fun c23 => ?_) (fun c23 => ?_)
    · refine v_aload_n 30 dX4_chosen_30 rfl rfl ?_
      refine v_getf 31 dX4_chosen_31 fl_X4_7 mPut_o rfl ?_
      refine v_iload_n 34 dX4_chosen_34 rfl rfl ?_
      refine m_ild 35 2 dX4_chosen_35 hds (hix c23) ?_
      refine v_iret 36 dX4_chosen_36 rfl rfl ?_
      exact ⟨_, _, rfl, rfl, Or.inr ⟨b, hb, rfl, ⟨f, rfl⟩, (if_pos c23).symm⟩⟩
    · refine v_iconst (v := -1) 26 dX4_chosen_26 (by decide) ?_
      refine v_goto (tgt := 36) 27 dX4_chosen_27 (by decide) ?_
      refine v_iret 36 dX4_chosen_36 rfl rfl ?_
      exact ⟨_, _, rfl, rfl, Or.inr ⟨b, hb, rfl, ⟨f, rfl⟩, (if_neg c23).symm⟩⟩
  · refine v_iload_n 9 dX4_chosen_9 rfl rfl ?_
    refine v_iconst (v := 1) 10 dX4_chosen_10 (by decide) ?_
    refine v_icmp_eq (tgt := 16) 11 dX4_chosen_11 (by decide) (fun c11 => ?_) (fun c11 => ?_)
    · obtain ⟨b, hb, rfl⟩ : ∃ b : Nat, b < 2 ∧ which = nI b := by
        first
          | exact ⟨0, by decide, c6⟩
          | exact ⟨1, by decide, c11⟩
      have hix : 0 ≤ chI S F b → vp_in (chI S F b) 33 := by
        intro hp
        rcases chI_rng S F b with e | ⟨k, hk, e⟩
        · rw [e] at hp; exact absurd hp (by decide)
        · rw [e]; exact vp_in_nI (N := 33) (by omega) (by decide)
      refine v_aload_n 16 dX4_chosen_16 rfl rfl ?_
      refine v_iload_n 17 dX4_chosen_17 rfl rfl ?_
      refine m_call 18 [.int (nI b)] dX4_chosen_18 cv_X4_126 (ct_choose (S := mI S 0 0) (F := F) hds hF hF2 hb) (fun r h' hq' => ?_)
      obtain ⟨rfl, f, rfl⟩ := hq'
      show V _ _ 21 _ [.int (chI S F b)] _ _ _ _ _
      refine v_ist2 21 dX4_chosen_21 ?_
      refine v_iload_n 22 dX4_chosen_22 rfl rfl ?_
      refine v_if_ge (tgt := 30) 23 dX4_chosen_23 (by decide) (fun c23 => ?_) (fun c23 => ?_)
      · refine v_aload_n 30 dX4_chosen_30 rfl rfl ?_
        refine v_getf 31 dX4_chosen_31 fl_X4_7 mPut_o rfl ?_
        refine v_iload_n 34 dX4_chosen_34 rfl rfl ?_
        refine m_ild 35 2 dX4_chosen_35 hds (hix c23) ?_
        refine v_iret 36 dX4_chosen_36 rfl rfl ?_
        exact ⟨_, _, rfl, rfl, Or.inr ⟨b, hb, rfl, ⟨f, rfl⟩, (if_pos c23).symm⟩⟩
      · refine v_iconst (v := -1) 26 dX4_chosen_26 (by decide) ?_
        refine v_goto (tgt := 36) 27 dX4_chosen_27 (by decide) ?_
        refine v_iret 36 dX4_chosen_36 rfl rfl ?_
        exact ⟨_, _, rfl, rfl, Or.inr ⟨b, hb, rfl, ⟨f, rfl⟩, (if_neg c23).symm⟩⟩
    · refine v_iconst (v := -1) 14 dX4_chosen_14 (by decide) ?_
      refine v_iret 15 dX4_chosen_15 rfl rfl ?_
      exact ⟨_, _, rfl, rfl, Or.inl ⟨fun q => q.elim c6 c11, rfl, rfl⟩⟩
set_option maxHeartbeats 4000000 in
set_option maxRecDepth 100000 in
theorem ct_chosenGlyph {K : KT} {h : AH} {mo : Nat} {ad : Nat → Nat} {S : MS} {F G b : Nat} {c : Int32} (hds : mDis mo ad) (hF : S.1 1 = nI F) (hF2 : F ≤ 32) (hG : S.1 5 = nI G) (hG2 : G ≤ 256) (hb : b < 2) : Ct K mX4_chosenGlyph 0 0 [.ref mo, .int (nI b), .int c] (mPut h mo ad S) (fun r h' => r = some (.int (cgI S F G b c)) ∧ ∃ f, h' = mPut h mo ad (mA S 19 f)) noX := by
  have hix : 0 ≤ chI S F b → vp_in (chI S F b) 33 := by
    intro hp
    rcases chI_rng S F b with e | ⟨k, hk, e⟩
    · rw [e] at hp; exact absurd hp (by decide)
    · rw [e]; exact vp_in_nI (N := 33) (by omega) (by decide)
  refine ct_of (by decide +kernel) rfl (Nat.le_of_ble_eq_true rfl) rfl ?_
  refine v_aload_n 0 dX4_chosenGlyph_0 rfl rfl ?_
  refine v_iload_n 1 dX4_chosenGlyph_1 rfl rfl ?_
  refine m_call 2 [.int (nI b)] dX4_chosenGlyph_2 cv_X4_126 (ct_choose (F := F) hds hF hF2 hb) (fun r h' hq' => ?_)
  obtain ⟨rfl, f, rfl⟩ := hq'
  refine v_ist3 5 dX4_chosenGlyph_5 ?_
  refine v_iload_n 6 dX4_chosenGlyph_6 rfl rfl ?_
  refine v_if_ge (tgt := 14) 7 dX4_chosenGlyph_7 (by decide) (fun c7 => ?_) (fun c7 => ?_)
  · refine v_aload_n 14 dX4_chosenGlyph_14 rfl rfl ?_
    refine v_aload_n 15 dX4_chosenGlyph_15 rfl rfl ?_
    refine v_getf 16 dX4_chosenGlyph_16 fl_X4_7 mPut_o rfl ?_
    refine v_iload_n 19 dX4_chosenGlyph_19 rfl rfl ?_
    refine m_ild 20 2 dX4_chosenGlyph_20 hds (hix c7) ?_
    refine v_iload_n 21 dX4_chosenGlyph_21 rfl rfl ?_
    refine m_call 22 [.int _, .int c] dX4_chosenGlyph_22 cv_X4_100 (ct_glyphOf (S := mA S 19 f) (G := G) hds hG hG2) (fun r h' hq' => ?_)
    obtain ⟨rfl, rfl⟩ := hq'
    refine v_iret 25 dX4_chosenGlyph_25 rfl rfl ?_
    refine ⟨?_, f, rfl⟩
    rw [cgI, if_pos c7]
    rfl
  · refine v_iconst (v := -1) 10 dX4_chosenGlyph_10 (by decide) ?_
    refine v_goto (tgt := 25) 11 dX4_chosenGlyph_11 (by decide) ?_
    refine v_iret 25 dX4_chosenGlyph_25 rfl rfl ?_
    refine ⟨?_, f, rfl⟩
    rw [cgI, if_neg c7]
set_option maxHeartbeats 4000000 in
set_option maxRecDepth 100000 in
theorem ct_isBlack {K : KT} {h : AH} {mo : Nat} {ad : Nat → Nat} {S : MS} {L : List GL} {g W D x y : Nat} {q : GL} (hds : mDis mo ad) (hR : gRep S L) (hg : L[g]? = some q) (hW : q.1 4 = nI W) (hD : q.1 5 = nI D) (hW2 : W ≤ 128) (hD2 : D ≤ 128) (hx : x < W) (hy : y < D) : Ct K mX4_isBlack 0 0 [.ref mo, .int (nI g), .int (nI x), .int (nI y)] (mPut h mo ad S) (fun r h' => r = some (.int (bI (blk q W x y))) ∧ h' = mPut h mo ad S) noX := by
  have hgl : g < L.length := (List.getElem?_eq_some_iff.mp hg).1
  have hL := hR.2.1
  have hok := hR.2.2.2.1 q (List.mem_of_getElem? hg)
  have hlen : q.2.length = D * ((W + 7) / 8) := by
    obtain ⟨W', D', h1, h2, h3, h4, h5, -⟩ := hok
    have hWW : W' = W := (nI_eq (by omega) (by omega)).mp (h1.symm.trans hW)
    have hDD : D' = D := (nI_eq (by omega) (by omega)).mp (h2.symm.trans hD)
    rw [h5, hWW, hDD]
  have hi := blk_ix hx hy
  rw [← hlen] at hi
  obtain ⟨hb1, hb2⟩ := gRep_b hR hg hi
  have e4 : (7 : Int32) * nI g + 4 = nI (7 * g + 4) := by rw [m7]; exact m7a g 4
  have eW : S.2 6 ((7 : Int32) * nI g + 4).toNatClampNeg = nI W := by rw [e4, nI_clamp (by omega), hR.2.2.1 g q hg 4 (by decide), hW]
  have eA : (nI W + 7) / 8 = nI ((W + 7) / 8) := by rw [show (7 : Int32) = nI 7 from rfl, show (8 : Int32) = nI 8 from rfl, nI_add, pk_div (by omega) (by decide) (by decide)]
  have eX : nI x / 8 = nI (x / 8) := by rw [show (8 : Int32) = nI 8 from rfl, pk_div (by omega) (by decide) (by decide)]
  have eM : nI x - nI (x / 8) * 8 = nI (x % 8) := by
    rw [show (8 : Int32) = nI 8 from rfl, pk_mul, pk_sub (by omega)]; congr 1; omega
  have eI : nI (flatB (L.take g)).length + nI ((W + 7) / 8) * nI y + nI (x / 8) = nI ((flatB (L.take g)).length + ((W + 7) / 8 * y + x / 8)) := by
    rw [pk_mul, nI_add, nI_add, Nat.add_assoc]
  refine ct_of (by decide +kernel) rfl (Nat.le_of_ble_eq_true rfl) rfl ?_
  refine v_aload_n 0 dX4_isBlack_0 rfl rfl ?_
  refine v_getf 1 dX4_isBlack_1 fl_X4_20 mPut_o rfl ?_
  refine v_bipush (v := 7) 4 dX4_isBlack_4 (by decide) ?_
  refine v_iload_n 6 dX4_isBlack_6 rfl rfl ?_
  refine v_imul 7 dX4_isBlack_7 ?_
  refine v_iconst (v := 4) 8 dX4_isBlack_8 (by decide) ?_
  refine v_iadd 9 dX4_isBlack_9 ?_
  refine m_ild 10 6 dX4_isBlack_10 hds (by rw [e4]; exact vp_in_nI (N := 1799) (by omega) (by decide)) ?_
  rw [eW]
  refine v_bipush (v := 7) 11 dX4_isBlack_11 (by decide) ?_
  refine v_iadd 13 dX4_isBlack_13 ?_
  refine v_bipush (v := 8) 14 dX4_isBlack_14 (by decide) ?_
  refine v_idiv 16 dX4_isBlack_16 (by decide) ?_
  rw [eA]
  refine v_ist4 17 dX4_isBlack_17 ?_
  refine v_aload_n 19 dX4_isBlack_19 rfl rfl ?_
  refine v_getf 20 dX4_isBlack_20 fl_X4_23 mPut_o rfl ?_
  refine v_aload_n 23 dX4_isBlack_23 rfl rfl ?_
  refine v_iload_n 24 dX4_isBlack_24 rfl rfl ?_
  refine m_call 25 [.int (nI g)] dX4_isBlack_25 cv_X4_76 (ct_startOf (G := g) hds (by omega)) (fun r h' hq' => ?_)
  obtain ⟨rfl, rfl⟩ := hq'
  rw [gRep_St hR g (by omega)]
  refine v_iload 28 dX4_isBlack_28 rfl ?_
  refine v_iload_n 30 dX4_isBlack_30 rfl rfl ?_
  refine v_imul 31 dX4_isBlack_31 ?_
  refine v_iadd 32 dX4_isBlack_32 ?_
  refine v_iload_n 33 dX4_isBlack_33 rfl rfl ?_
  refine v_bipush (v := 8) 34 dX4_isBlack_34 (by decide) ?_
  refine v_idiv 36 dX4_isBlack_36 (by decide) ?_
  rw [eX]
  refine v_iadd 37 dX4_isBlack_37 ?_
  rw [eI]
  refine m_bld 38 8 dX4_isBlack_38 hds (vp_in_nI (N := 20000) (by omega) (by decide)) ?_
  rw [nI_clamp (by omega), hb2]
  refine v_bipush (v := 7) 39 dX4_isBlack_39 (by decide) ?_
  refine v_iload_n 41 dX4_isBlack_41 rfl rfl ?_
  refine v_bipush (v := 8) 42 dX4_isBlack_42 (by decide) ?_
  refine v_irem 44 dX4_isBlack_44 (by decide) ?_
  rw [eX, eM]
  refine v_isub 45 dX4_isBlack_45 ?_
  refine v_ishr 46 dX4_isBlack_46 ?_
  refine v_iconst (v := 1) 47 dX4_isBlack_47 (by decide) ?_
  refine v_iand 48 dX4_isBlack_48 ?_
  refine v_iconst (v := 1) 49 dX4_isBlack_49 (by decide) ?_
  refine v_icmp_ne (tgt := 57) 50 dX4_isBlack_50 (by decide) (fun c50 => ?_) (fun c50 => ?_)
  · refine v_iconst (v := 0) 57 dX4_isBlack_57 (by decide) ?_
    refine v_iret 58 dX4_isBlack_58 rfl rfl ?_
    refine ⟨?_, rfl⟩
    unfold blk
    rw [decide_eq_false c50]
    rfl
  · refine v_iconst (v := 1) 53 dX4_isBlack_53 (by decide) ?_
    refine v_goto (tgt := 58) 54 dX4_isBlack_54 (by decide) ?_
    refine v_iret 58 dX4_isBlack_58 rfl rfl ?_
    refine ⟨?_, rfl⟩
    unfold blk
    rw [decide_eq_true c50]
    rfl

def onGC (x c : Int32) (g : GL) : Bool := decide (g.1 0 = x ∧ g.1 1 = c)
def offGC (x c : Int32) (g : GL) : Bool := !(onGC x c g)
def gNd (L : List GL) : Prop := ∀ (j k : Nat) (a b : GL), L[j]? = some a → L[k]? = some b → a.1 0 = b.1 0 → a.1 1 = b.1 1 → j = k
theorem lastG_none {f : Nat → Int32} {x c : Int32} : ∀ n : Nat, (∀ k, k < n → ¬ (f (7 * k) = x ∧ f (7 * k + 1) = c)) → lastG f x c n = -1
  | 0, _ => rfl
  | n + 1, h => by rw [lastG, if_neg (h n (by omega)), lastG_none n (fun k hk => h k (by omega))]
theorem lastG_some {f : Nat → Int32} {x c : Int32} {k : Nat} : ∀ n : Nat, k < n → (f (7 * k) = x ∧ f (7 * k + 1) = c) → (∀ j, j < n → (f (7 * j) = x ∧ f (7 * j + 1) = c) → j = k) → lastG f x c n = nI k
  | 0, h, _, _ => absurd h (by omega)
  | n + 1, hk, hf, hu => by
    rw [lastG]
    by_cases hn : f (7 * n) = x ∧ f (7 * n + 1) = c
    · rw [if_pos hn, hu n (by omega) hn]
    · rw [if_neg hn]
      refine lastG_some n ?_ hf (fun j hj => hu j (by omega))
      by_cases hkn : k = n
      · exact absurd (hkn ▸ hf) hn
      · omega
theorem gIx {S : MS} {L : List GL} (hR : gRep S L) (hnd : gNd L) (x c : Int32) : (∃ (k : Nat) (e : GL), L[k]? = some e ∧ (e.1 0 = x ∧ e.1 1 = c) ∧ lastG (S.2 6) x c L.length = nI k) ∨ ((∀ e ∈ L, ¬ (e.1 0 = x ∧ e.1 1 = c)) ∧ lastG (S.2 6) x c L.length = -1) := by
  have h0 : ∀ k e, L[k]? = some e → S.2 6 (7 * k) = e.1 0 := fun k e hk => hR.2.2.1 k e hk 0 (by decide)
  have h1 : ∀ k e, L[k]? = some e → S.2 6 (7 * k + 1) = e.1 1 := fun k e hk => hR.2.2.1 k e hk 1 (by decide)
  by_cases hc : ∃ e ∈ L, e.1 0 = x ∧ e.1 1 = c
  · obtain ⟨e, he, hx⟩ := hc
    obtain ⟨k, hk⟩ := List.mem_iff_getElem?.mp he
    refine Or.inl ⟨k, e, hk, hx, lastG_some _ (List.getElem?_eq_some_iff.mp hk).1 (by rw [h0 k e hk, h1 k e hk]; exact hx) ?_⟩
    intro j hj hj2
    have hj' : L[j]? = some L[j] := List.getElem?_eq_getElem hj
    rw [h0 j _ hj', h1 j _ hj'] at hj2
    exact hnd j k _ e hj' hk (hj2.1.trans hx.1.symm) (hj2.2.trans hx.2.symm)
  · refine Or.inr ⟨fun e he hx => hc ⟨e, he, hx⟩, lastG_none _ (fun k hk hx => hc ⟨L[k], List.getElem_mem hk, ?_⟩)⟩
    rw [h0 k _ (List.getElem?_eq_getElem hk), h1 k _ (List.getElem?_eq_getElem hk)] at hx
    exact hx
theorem gNd_tl {a : GL} {L : List GL} (h : gNd (a :: L)) : gNd L := fun j k p q hp hq e0 e1 => by
  have := h (j + 1) (k + 1) p q (by rw [List.getElem?_cons_succ]; exact hp) (by rw [List.getElem?_cons_succ]; exact hq) e0 e1
  omega
theorem gNd_hd {a : GL} {L : List GL} (h : gNd (a :: L)) : ∀ e ∈ L, ¬ (e.1 0 = a.1 0 ∧ e.1 1 = a.1 1) := fun e he hx => by
  obtain ⟨k, hk⟩ := List.mem_iff_getElem?.mp he
  have := h (k + 1) 0 e a (by rw [List.getElem?_cons_succ]; exact hk) rfl hx.1 hx.2
  omega
theorem gNd_cons {a : GL} {L : List GL} (h : gNd L) (ha : ∀ e ∈ L, ¬ (e.1 0 = a.1 0 ∧ e.1 1 = a.1 1)) : gNd (a :: L) := by
  intro j k p q hp hq e0 e1
  cases j with
  | zero =>
    cases k with
    | zero => rfl
    | succ k =>
      rw [List.getElem?_cons_succ] at hq
      have hpa : p = a := by simpa using hp.symm
      subst hpa
      exact absurd ⟨e0.symm, e1.symm⟩ (ha q (List.mem_of_getElem? hq))
  | succ j =>
    rw [List.getElem?_cons_succ] at hp
    cases k with
    | zero =>
      have hqa : q = a := by simpa using hq.symm
      subst hqa
      exact absurd ⟨e0, e1⟩ (ha p (List.mem_of_getElem? hp))
    | succ k =>
      rw [List.getElem?_cons_succ] at hq
      rw [h j k p q hp hq e0 e1]
theorem gNd_filter {p : GL → Bool} : ∀ {L : List GL}, gNd L → gNd (L.filter p)
  | [], h => h
  | a :: L, h => by
    rw [List.filter_cons]
    split
    · exact gNd_cons (gNd_filter (gNd_tl h)) (fun e he => gNd_hd h e (List.mem_filter.mp he).1)
    · exact gNd_filter (gNd_tl h)
theorem erase_offGC : ∀ {L : List GL} {k : Nat} {e : GL}, gNd L → L[k]? = some e → L.eraseIdx k = L.filter (offGC (e.1 0) (e.1 1))
  | [], _, _, _, h => by simp at h
  | a :: L, 0, e, hnd, h => by
    have hae : e = a := by simpa using h.symm
    subst hae
    rw [List.eraseIdx_cons_zero, List.filter_cons_of_neg (by simp [offGC, onGC])]
    refine (List.filter_eq_self.mpr (fun q hq => ?_)).symm
    have := gNd_hd hnd q hq
    show (!decide _) = true
    rw [decide_eq_false this]; rfl
  | a :: L, k + 1, e, hnd, h => by
    rw [List.getElem?_cons_succ] at h
    have hne : ¬ (a.1 0 = e.1 0 ∧ a.1 1 = e.1 1) := fun hx => gNd_hd hnd e (List.mem_of_getElem? h) ⟨hx.1.symm, hx.2.symm⟩
    rw [List.eraseIdx_cons_succ, List.filter_cons_of_pos (by show (!decide _) = true; rw [decide_eq_false hne]; rfl), erase_offGC (gNd_tl hnd) h]
theorem offGC_no {L : List GL} {x c : Int32} (h : ∀ e ∈ L, ¬ (e.1 0 = x ∧ e.1 1 = c)) : L.filter (offGC x c) = L :=
  List.filter_eq_self.mpr (fun g hm => by show (!decide _) = true; rw [decide_eq_false (h g hm)]; rfl)
def dP (what x : Int32) (e : FN) : Bool := decide (what = 0 ∨ (what = 1 ∧ e.2.1 = 0) ∨ (what = 2 ∧ e.1 = x))
def dK (what x : Int32) (e : FN) : Bool := !(dP what x e)
def dG (what x : Int32) (FL : List FN) (g : GL) : Bool := decide (∀ e ∈ FL, dP what x e = true → ¬ g.1 0 = e.1)
theorem dG_nil (what x : Int32) (L : List GL) : L.filter (dG what x []) = L := List.filter_eq_self.mpr (fun g _ => decide_eq_true (fun e he => absurd he (by simp)))
theorem dG_pos {what x : Int32} {e : FN} {FL : List FN} (L : List GL) (h : dP what x e = true) : L.filter (dG what x (e :: FL)) = (L.filter (dG what x FL)).filter (offG e.1) := by
  rw [List.filter_filter]
  refine List.filter_congr (fun g _ => ?_)
  rw [Bool.eq_iff_iff, Bool.and_eq_true]
  unfold dG offG
  rw [decide_eq_true_iff, decide_eq_true_iff, decide_eq_true_iff]
  constructor
  · intro hh
    exact ⟨hh e (List.mem_cons_self) h, fun q hq => hh q (List.mem_cons_of_mem _ hq)⟩
  · rintro ⟨h1, h2⟩ q hq hp
    rcases List.mem_cons.mp hq with rfl | hq
    · exact h1
    · exact h2 q hq hp
theorem dG_neg {what x : Int32} {e : FN} {FL : List FN} (L : List GL) (h : ¬ dP what x e = true) : L.filter (dG what x (e :: FL)) = L.filter (dG what x FL) := by
  refine List.filter_congr (fun g _ => ?_)
  rw [Bool.eq_iff_iff]
  unfold dG
  rw [decide_eq_true_iff, decide_eq_true_iff]
  constructor
  · intro hh q hq
    exact hh q (List.mem_cons_of_mem _ hq)
  · intro h2 q hq hp
    rcases List.mem_cons.mp hq with rfl | hq
    · exact absurd hp h
    · exact h2 q hq hp
def dropR (S : MS) (FL : List FN) (L : List GL) (what : Int32) (S' : MS) (r : Int32) : Prop :=
  ((what < 0 ∨ ¬ what ≤ 3) ∧ r = 0 ∧ S' = mI S 0 1) ∨
  (¬ what < 0 ∧ what ≤ 3 ∧ S'.1 0 = 0 ∧ S'.1 14 = 0 ∧ dSame S S' ∧
    ((what = 3 ∧ fRep S' FL ∧ gRep S' (L.filter (offGC (S.1 12) (S.1 13))) ∧ ((r = 1 ∧ ∃ g ∈ L, g.1 0 = S.1 12 ∧ g.1 1 = S.1 13) ∨ (r = 0 ∧ ∀ g ∈ L, ¬ (g.1 0 = S.1 12 ∧ g.1 1 = S.1 13)))) ∨
     (¬ what = 3 ∧ fRep S' (FL.filter (dK what (S.1 12))) ∧ gRep S' (L.filter (dG what (S.1 12) FL)) ∧ r = nI (FL.filter (dP what (S.1 12))).length)))
set_option maxHeartbeats 4000000 in
set_option maxRecDepth 100000 in
theorem lp_drop {K : KT} {h : AH} {mo : Nat} {ad : Nat → Nat} {S : MS} {L : List GL} {FL : List FN} {what : Int32} {Q : QR} {X : QX} (hds : mDis mo ad) (hF : FL.length ≤ 32)
    (hq : ∀ S', fRep S' (FL.filter (dK what (S.1 12))) → gRep S' (L.filter (dG what (S.1 12) FL)) → fSame S S' → Q (some (.int (nI (FL.filter (dP what (S.1 12))).length))) (mPut h mo ad S')) : ∀ (j : Nat) (S' : MS), j ≤ FL.length → fRep S' (FL.take j ++ (FL.drop j).filter (dK what (S.1 12))) → gRep S' (L.filter (dG what (S.1 12) (FL.drop j))) → fSame S S' → V K mX4_drop 72 [some (.ref mo), some (.int what), some (.int (nI ((FL.drop j).filter (dP what (S.1 12))).length)), some (.int (kv j))] [] (mPut h mo ad S') 0 0 Q X := by
  intro j
  induction j with
  | zero =>
    intro S' hj hR hG hs
    rw [List.take_zero, List.nil_append, List.drop_zero] at hR
    rw [List.drop_zero] at hG ⊢
    refine v_iload_n 72 dX4_drop_72 rfl rfl ?_
    refine v_if_lt (tgt := 126) 73 dX4_drop_73 (by decide) (fun c73 => ?_) (fun c73 => absurd (by decide) c73)
    refine v_iload_n 126 dX4_drop_126 rfl rfl ?_
    refine v_iret 127 dX4_drop_127 rfl rfl ?_
    exact hq S' hR hG hs
  | succ j ih =>
    intro S' hj hR hG hs
    have hjl : j < FL.length := hj
    have hgj : FL[j]? = some FL[j] := List.getElem?_eq_getElem hjl
    have hlist : FL.take (j + 1) ++ (FL.drop (j + 1)).filter (dK what (S.1 12)) = FL.take j ++ (FL[j] :: (FL.drop (j + 1)).filter (dK what (S.1 12))) := by
      rw [show FL.take (j + 1) = FL.take j ++ [FL[j]] from by rw [List.take_succ, hgj]; rfl, List.append_assoc]; rfl
    have hat : (FL.take (j + 1) ++ (FL.drop (j + 1)).filter (dK what (S.1 12)))[j]? = some FL[j] := by
      rw [hlist, List.getElem?_append_right (by simp; omega)]; simp [Nat.min_eq_left (Nat.le_of_lt hjl)]
    have hdj : FL.drop j = FL[j] :: FL.drop (j + 1) := List.drop_eq_getElem_cons hjl
    obtain ⟨ei, ep, -, -⟩ := hR.2.2 j _ hat
    have e12 : S'.1 12 = S.1 12 := hs.1 12 (by decide) (by decide) (by decide)
    refine v_iload_n 72 dX4_drop_72 rfl rfl ?_
    refine v_if_lt (tgt := 126) 73 dX4_drop_73 (by decide) (fun c73 => absurd c73 (nI_pos (by omega))) (fun c73 => ?_)
    refine v_iload_n 76 dX4_drop_76 rfl rfl ?_
    refine v_if_eq (tgt := 112) 77 dX4_drop_77 (by decide) (fun c77 => ?_) (fun c77 => ?_)
    · have hp : dP what (S.1 12) FL[j] = true := by
        refine decide_eq_true ?_
        first
          | exact Or.inl c77
          | exact Or.inr (Or.inl ⟨c82, by rw [← ep, ← nI_clamp (n := j) (by omega)]; exact c91⟩)
          | exact Or.inr (Or.inr ⟨c96, by rw [← ei, ← e12, ← nI_clamp (n := j) (by omega)]; exact c109⟩)
      have hk : ¬ dK what (S.1 12) FL[j] = true := by unfold dK; rw [hp]; decide
      refine v_aload_n 112 dX4_drop_112 rfl rfl ?_
      refine v_iload_n 113 dX4_drop_113 rfl rfl ?_
      refine m_call 114 [.int (nI j)] dX4_drop_114 cv_X4_89 (ct_goFont hds hG hR hat) (fun r h' hq' => ?_)
      obtain ⟨rfl, S2, rfl, hs2, hG2, hR2⟩ := hq'
      refine v_inc2 (y := 1) 117 dX4_drop_117 (by decide) ?_
      refine v_inc3 (y := -1) 120 dX4_drop_120 (by decide) ?_
      refine v_goto (tgt := 72) 123 dX4_drop_123 (by decide) ?_
      refine V.eq (ih S2 (by omega) ?_ ?_ (fSame_tr hs hs2)) rfl ?_ rfl rfl
      · rw [hlist, List.eraseIdx_append_of_length_le (by simp; omega)] at hR2
        rw [hdj, List.filter_cons_of_neg hk]
        simpa [Nat.min_eq_left (Nat.le_of_lt hjl)] using hR2
      · rw [hdj, dG_pos L hp]; exact hG2
      · rw [hdj, List.filter_cons_of_pos hp, List.length_cons, ← nI_1, ← kv_dec j]; rfl
    · refine v_iload_n 80 dX4_drop_80 rfl rfl ?_
      refine v_iconst (v := 1) 81 dX4_drop_81 (by decide) ?_
      refine v_icmp_ne (tgt := 94) 82 dX4_drop_82 (by decide) (fun c82 => ?_) (fun c82 => ?_)
      · refine v_iload_n 94 dX4_drop_94 rfl rfl ?_
        refine v_iconst (v := 2) 95 dX4_drop_95 (by decide) ?_
        refine v_icmp_ne (tgt := 120) 96 dX4_drop_96 (by decide) (fun c96 => ?_) (fun c96 => ?_)
        · have hp : ¬ dP what (S.1 12) FL[j] = true := by
            intro hh
            rcases of_decide_eq_true hh with h0 | ⟨h1, h2⟩ | ⟨h1, h2⟩
            · exact c77 h0
            · first
                | exact c82 h1
                | exact c91 (by rw [← h2, ← ep, show kv (j + 1) = nI j from rfl, nI_clamp (n := j) (by omega)])
            · first
                | exact c96 h1
                | exact c109 (by rw [e12, ← h2, ← ei, show kv (j + 1) = nI j from rfl, nI_clamp (n := j) (by omega)])
          have hk : dK what (S.1 12) FL[j] = true := by unfold dK; rw [Bool.eq_false_iff.mpr hp]; rfl
          refine v_inc3 (y := -1) 120 dX4_drop_120 (by decide) ?_
          refine v_goto (tgt := 72) 123 dX4_drop_123 (by decide) ?_
          refine V.eq (ih S' (by omega) ?_ ?_ hs) rfl ?_ rfl rfl
          · rw [hdj, List.filter_cons_of_pos hk, ← hlist]; exact hR
          · rw [hdj, dG_neg L hp]; exact hG
          · rw [hdj, List.filter_cons_of_neg hp, ← kv_dec j]; rfl
        · refine v_aload_n 99 dX4_drop_99 rfl rfl ?_
          refine v_getf 100 dX4_drop_100 fl_X4_7 mPut_o rfl ?_
          refine v_iload_n 103 dX4_drop_103 rfl rfl ?_
          refine m_ild 104 2 dX4_drop_104 hds (vp_in_nI (N := 33) (by omega) (by decide)) ?_
          refine v_aload_n 105 dX4_drop_105 rfl rfl ?_
          refine v_getf 106 dX4_drop_106 fl_X4_55 mPut_o rfl ?_
          refine v_icmp_ne (tgt := 120) 109 dX4_drop_109 (by decide) (fun c109 => ?_) (fun c109 => ?_)
          · have hp : ¬ dP what (S.1 12) FL[j] = true := by
              intro hh
              rcases of_decide_eq_true hh with h0 | ⟨h1, h2⟩ | ⟨h1, h2⟩
              · exact c77 h0
              · first
                  | exact c82 h1
                  | exact c91 (by rw [← h2, ← ep, show kv (j + 1) = nI j from rfl, nI_clamp (n := j) (by omega)])
              · first
                  | exact c96 h1
                  | exact c109 (by rw [e12, ← h2, ← ei, show kv (j + 1) = nI j from rfl, nI_clamp (n := j) (by omega)])
            have hk : dK what (S.1 12) FL[j] = true := by unfold dK; rw [Bool.eq_false_iff.mpr hp]; rfl
            refine v_inc3 (y := -1) 120 dX4_drop_120 (by decide) ?_
            refine v_goto (tgt := 72) 123 dX4_drop_123 (by decide) ?_
            refine V.eq (ih S' (by omega) ?_ ?_ hs) rfl ?_ rfl rfl
            · rw [hdj, List.filter_cons_of_pos hk, ← hlist]; exact hR
            · rw [hdj, dG_neg L hp]; exact hG
            · rw [hdj, List.filter_cons_of_neg hp, ← kv_dec j]; rfl
          · have hp : dP what (S.1 12) FL[j] = true := by
              refine decide_eq_true ?_
              first
                | exact Or.inl c77
                | exact Or.inr (Or.inl ⟨c82, by rw [← ep, ← nI_clamp (n := j) (by omega)]; exact c91⟩)
                | exact Or.inr (Or.inr ⟨c96, by rw [← ei, ← e12, ← nI_clamp (n := j) (by omega)]; exact c109⟩)
            have hk : ¬ dK what (S.1 12) FL[j] = true := by unfold dK; rw [hp]; decide
            refine v_aload_n 112 dX4_drop_112 rfl rfl ?_
            refine v_iload_n 113 dX4_drop_113 rfl rfl ?_
            refine m_call 114 [.int (nI j)] dX4_drop_114 cv_X4_89 (ct_goFont hds hG hR hat) (fun r h' hq' => ?_)
            obtain ⟨rfl, S2, rfl, hs2, hG2, hR2⟩ := hq'
            refine v_inc2 (y := 1) 117 dX4_drop_117 (by decide) ?_
            refine v_inc3 (y := -1) 120 dX4_drop_120 (by decide) ?_
            refine v_goto (tgt := 72) 123 dX4_drop_123 (by decide) ?_
            refine V.eq (ih S2 (by omega) ?_ ?_ (fSame_tr hs hs2)) rfl ?_ rfl rfl
            · rw [hlist, List.eraseIdx_append_of_length_le (by simp; omega)] at hR2
              rw [hdj, List.filter_cons_of_neg hk]
              simpa [Nat.min_eq_left (Nat.le_of_lt hjl)] using hR2
            · rw [hdj, dG_pos L hp]; exact hG2
            · rw [hdj, List.filter_cons_of_pos hp, List.length_cons, ← nI_1, ← kv_dec j]; rfl
      · refine v_aload_n 85 dX4_drop_85 rfl rfl ?_
        refine v_getf 86 dX4_drop_86 fl_X4_16 mPut_o rfl ?_
        refine v_iload_n 89 dX4_drop_89 rfl rfl ?_
        refine m_zld 90 4 dX4_drop_90 hds (vp_in_nI (N := 33) (by omega) (by decide)) ?_
        refine v_if_eq (tgt := 112) 91 dX4_drop_91 (by decide) (fun c91 => ?_) (fun c91 => ?_)
        · have hp : dP what (S.1 12) FL[j] = true := by
            refine decide_eq_true ?_
            first
              | exact Or.inl c77
              | exact Or.inr (Or.inl ⟨c82, by rw [← ep, ← nI_clamp (n := j) (by omega)]; exact c91⟩)
              | exact Or.inr (Or.inr ⟨c96, by rw [← ei, ← e12, ← nI_clamp (n := j) (by omega)]; exact c109⟩)
          have hk : ¬ dK what (S.1 12) FL[j] = true := by unfold dK; rw [hp]; decide
          refine v_aload_n 112 dX4_drop_112 rfl rfl ?_
          refine v_iload_n 113 dX4_drop_113 rfl rfl ?_
          refine m_call 114 [.int (nI j)] dX4_drop_114 cv_X4_89 (ct_goFont hds hG hR hat) (fun r h' hq' => ?_)
          obtain ⟨rfl, S2, rfl, hs2, hG2, hR2⟩ := hq'
          refine v_inc2 (y := 1) 117 dX4_drop_117 (by decide) ?_
          refine v_inc3 (y := -1) 120 dX4_drop_120 (by decide) ?_
          refine v_goto (tgt := 72) 123 dX4_drop_123 (by decide) ?_
          refine V.eq (ih S2 (by omega) ?_ ?_ (fSame_tr hs hs2)) rfl ?_ rfl rfl
          · rw [hlist, List.eraseIdx_append_of_length_le (by simp; omega)] at hR2
            rw [hdj, List.filter_cons_of_neg hk]
            simpa [Nat.min_eq_left (Nat.le_of_lt hjl)] using hR2
          · rw [hdj, dG_pos L hp]; exact hG2
          · rw [hdj, List.filter_cons_of_pos hp, List.length_cons, ← nI_1, ← kv_dec j]; rfl
        · refine v_iload_n 94 dX4_drop_94 rfl rfl ?_
          refine v_iconst (v := 2) 95 dX4_drop_95 (by decide) ?_
          refine v_icmp_ne (tgt := 120) 96 dX4_drop_96 (by decide) (fun c96 => ?_) (fun c96 => ?_)
          · have hp : ¬ dP what (S.1 12) FL[j] = true := by
              intro hh
              rcases of_decide_eq_true hh with h0 | ⟨h1, h2⟩ | ⟨h1, h2⟩
              · exact c77 h0
              · first
                  | exact c82 h1
                  | exact c91 (by rw [← h2, ← ep, show kv (j + 1) = nI j from rfl, nI_clamp (n := j) (by omega)])
              · first
                  | exact c96 h1
                  | exact c109 (by rw [e12, ← h2, ← ei, show kv (j + 1) = nI j from rfl, nI_clamp (n := j) (by omega)])
            have hk : dK what (S.1 12) FL[j] = true := by unfold dK; rw [Bool.eq_false_iff.mpr hp]; rfl
            refine v_inc3 (y := -1) 120 dX4_drop_120 (by decide) ?_
            refine v_goto (tgt := 72) 123 dX4_drop_123 (by decide) ?_
            refine V.eq (ih S' (by omega) ?_ ?_ hs) rfl ?_ rfl rfl
            · rw [hdj, List.filter_cons_of_pos hk, ← hlist]; exact hR
            · rw [hdj, dG_neg L hp]; exact hG
            · rw [hdj, List.filter_cons_of_neg hp, ← kv_dec j]; rfl
          · refine v_aload_n 99 dX4_drop_99 rfl rfl ?_
            refine v_getf 100 dX4_drop_100 fl_X4_7 mPut_o rfl ?_
            refine v_iload_n 103 dX4_drop_103 rfl rfl ?_
            refine m_ild 104 2 dX4_drop_104 hds (vp_in_nI (N := 33) (by omega) (by decide)) ?_
            refine v_aload_n 105 dX4_drop_105 rfl rfl ?_
            refine v_getf 106 dX4_drop_106 fl_X4_55 mPut_o rfl ?_
            refine v_icmp_ne (tgt := 120) 109 dX4_drop_109 (by decide) (fun c109 => ?_) (fun c109 => ?_)
            · have hp : ¬ dP what (S.1 12) FL[j] = true := by
                intro hh
                rcases of_decide_eq_true hh with h0 | ⟨h1, h2⟩ | ⟨h1, h2⟩
                · exact c77 h0
                · first
                    | exact c82 h1
                    | exact c91 (by rw [← h2, ← ep, show kv (j + 1) = nI j from rfl, nI_clamp (n := j) (by omega)])
                · first
                    | exact c96 h1
                    | exact c109 (by rw [e12, ← h2, ← ei, show kv (j + 1) = nI j from rfl, nI_clamp (n := j) (by omega)])
              have hk : dK what (S.1 12) FL[j] = true := by unfold dK; rw [Bool.eq_false_iff.mpr hp]; rfl
              refine v_inc3 (y := -1) 120 dX4_drop_120 (by decide) ?_
              refine v_goto (tgt := 72) 123 dX4_drop_123 (by decide) ?_
              refine V.eq (ih S' (by omega) ?_ ?_ hs) rfl ?_ rfl rfl
              · rw [hdj, List.filter_cons_of_pos hk, ← hlist]; exact hR
              · rw [hdj, dG_neg L hp]; exact hG
              · rw [hdj, List.filter_cons_of_neg hp, ← kv_dec j]; rfl
            · have hp : dP what (S.1 12) FL[j] = true := by
                refine decide_eq_true ?_
                first
                  | exact Or.inl c77
                  | exact Or.inr (Or.inl ⟨c82, by rw [← ep, ← nI_clamp (n := j) (by omega)]; exact c91⟩)
                  | exact Or.inr (Or.inr ⟨c96, by rw [← ei, ← e12, ← nI_clamp (n := j) (by omega)]; exact c109⟩)
              have hk : ¬ dK what (S.1 12) FL[j] = true := by unfold dK; rw [hp]; decide
              refine v_aload_n 112 dX4_drop_112 rfl rfl ?_
              refine v_iload_n 113 dX4_drop_113 rfl rfl ?_
              refine m_call 114 [.int (nI j)] dX4_drop_114 cv_X4_89 (ct_goFont hds hG hR hat) (fun r h' hq' => ?_)
              obtain ⟨rfl, S2, rfl, hs2, hG2, hR2⟩ := hq'
              refine v_inc2 (y := 1) 117 dX4_drop_117 (by decide) ?_
              refine v_inc3 (y := -1) 120 dX4_drop_120 (by decide) ?_
              refine v_goto (tgt := 72) 123 dX4_drop_123 (by decide) ?_
              refine V.eq (ih S2 (by omega) ?_ ?_ (fSame_tr hs hs2)) rfl ?_ rfl rfl
              · rw [hlist, List.eraseIdx_append_of_length_le (by simp; omega)] at hR2
                rw [hdj, List.filter_cons_of_neg hk]
                simpa [Nat.min_eq_left (Nat.le_of_lt hjl)] using hR2
              · rw [hdj, dG_pos L hp]; exact hG2
              · rw [hdj, List.filter_cons_of_pos hp, List.length_cons, ← nI_1, ← kv_dec j]; rfl
set_option maxHeartbeats 4000000 in
set_option maxRecDepth 100000 in
theorem ct_drop {K : KT} {h : AH} {mo : Nat} {ad : Nat → Nat} {S : MS} {L : List GL} {FL : List FN} {what : Int32} (hds : mDis mo ad) (hR : gRep S L) (hFR : fRep S FL) (hnd : gNd L) : Ct K mX4_drop 0 0 [.ref mo, .int what] (mPut h mo ad S) (fun r h' => ∃ (b : Int32) (S' : MS), r = some (.int b) ∧ h' = mPut h mo ad S' ∧ dropR S FL L what S' b) noX := by
  have hF32 := hFR.2.1
  refine ct_of (by decide +kernel) rfl (Nat.le_of_ble_eq_true rfl) rfl ?_
  refine v_aload_n 0 dX4_drop_0 rfl rfl ?_
  refine v_iload_n 1 dX4_drop_1 rfl rfl ?_
  refine v_if_lt (tgt := 10) 2 dX4_drop_2 (by decide) (fun c2 => ?_) (fun c2 => ?_)
  · refine v_iconst (v := 1) 10 dX4_drop_10 (by decide) ?_
    refine v_goto (tgt := 15) 11 dX4_drop_11 (by decide) ?_
    refine m_put 15 dX4_drop_15 fl_X4_45 ?_
    refine v_aload_n 18 dX4_drop_18 rfl rfl ?_
    refine v_getf 19 dX4_drop_19 fl_X4_45 mPut_o rfl ?_
    refine v_if_le (tgt := 27) 22 dX4_drop_22 (by decide) (fun c22 => absurd c22 (by rw [mI_s]; decide)) (fun c22 => ?_)
    refine v_iconst (v := 0) 25 dX4_drop_25 (by decide) ?_
    refine v_iret 26 dX4_drop_26 rfl rfl ?_
    refine ⟨_, _, rfl, rfl, Or.inl ⟨?_, rfl, rfl⟩⟩
    first
      | exact Or.inl c2
      | exact Or.inr c7
  · refine v_iload_n 5 dX4_drop_5 rfl rfl ?_
    refine v_iconst (v := 3) 6 dX4_drop_6 (by decide) ?_
    refine v_icmp_le (tgt := 14) 7 dX4_drop_7 (by decide) (fun c7 => ?_) (fun c7 => ?_)
    · refine v_iconst (v := 0) 14 dX4_drop_14 (by decide) ?_
      refine m_put 15 dX4_drop_15 fl_X4_45 ?_
      refine v_aload_n 18 dX4_drop_18 rfl rfl ?_
      refine v_getf 19 dX4_drop_19 fl_X4_45 mPut_o rfl ?_
      refine v_if_le (tgt := 27) 22 dX4_drop_22 (by decide) (fun c22 => ?_) (fun c22 => absurd (by rw [mI_s]; decide) c22)
      refine v_aload_n 27 dX4_drop_27 rfl rfl ?_
      refine v_iconst (v := 0) 28 dX4_drop_28 (by decide) ?_
      refine m_put 29 dX4_drop_29 fl_X4_58 ?_
      refine v_iconst (v := 0) 32 dX4_drop_32 (by decide) ?_
      refine v_ist2 33 dX4_drop_33 ?_
      refine v_iload_n 34 dX4_drop_34 rfl rfl ?_
      refine v_iconst (v := 3) 35 dX4_drop_35 (by decide) ?_
      refine v_icmp_ne (tgt := 65) 36 dX4_drop_36 (by decide) (fun c36 => ?_) (fun c36 => ?_)
      · refine v_aload_n 65 dX4_drop_65 rfl rfl ?_
        refine v_getf 66 dX4_drop_66 fl_X4_66 mPut_o rfl ?_
        refine v_iconst (v := 1) 69 dX4_drop_69 (by decide) ?_
        refine v_isub 70 dX4_drop_70 ?_
        refine v_ist3 71 dX4_drop_71 ?_
        refine V.eq (lp_drop (S := mI (mI S 0 0) 14 0) (L := L) (FL := FL) (what := what) hds hF32 ?_ FL.length (mI (mI S 0 0) 14 0) (Nat.le_refl _) (by rw [List.take_length, List.drop_length, List.filter_nil, List.append_nil]; exact fRep_congr hFR rfl rfl rfl rfl) (by rw [List.drop_length, dG_nil]; exact gRep_congr hR rfl rfl rfl rfl) (fSame_rf _)) rfl (by rw [List.drop_length, show (mI (mI S 0 0) 14 0).1 1 = nI FL.length from hFR.1, kv_sub]; rfl) rfl rfl
        intro S2 hF2 hG2 hs2
        exact ⟨_, _, rfl, rfl, Or.inr ⟨c2, c7, hs2.1 0 (by decide) (by decide) (by decide), hs2.1 14 (by decide) (by decide) (by decide), dSame_tr (dSame_tr (dSame_0 S 0) (dSame_14 _ 0)) (dSame_f hs2), Or.inr ⟨c36, hF2, hG2, rfl⟩⟩⟩
      · refine v_aload_n 39 dX4_drop_39 rfl rfl ?_
        refine v_aload_n 40 dX4_drop_40 rfl rfl ?_
        refine v_getf 41 dX4_drop_41 fl_X4_55 mPut_o rfl ?_
        refine v_aload_n 44 dX4_drop_44 rfl rfl ?_
        refine v_getf 45 dX4_drop_45 fl_X4_52 mPut_o rfl ?_
        refine m_call 48 [.int (S.1 12), .int (S.1 13)] dX4_drop_48 cv_X4_100 (ct_glyphOf (S := mI (mI S 0 0) 14 0) (G := L.length) hds hR.1 hR.2.1) (fun r h' hq' => ?_)
        obtain ⟨rfl, rfl⟩ := hq'
        show V _ _ 51 _ [.int (lastG (S.2 6) (S.1 12) (S.1 13) L.length)] _ _ _ _ _
        rcases gIx hR hnd (S.1 12) (S.1 13) with ⟨k, e, hk, hx, hix⟩ | ⟨hno, hix⟩
        · rw [hix]
          have hkl : k < L.length := (List.getElem?_eq_some_iff.mp hk).1
          have hL := hR.2.1
          refine v_ist3 51 dX4_drop_51 ?_
          refine v_iload_n 52 dX4_drop_52 rfl rfl ?_
          refine v_if_lt (tgt := 63) 53 dX4_drop_53 (by decide) (fun c53 => absurd c53 (nI_pos (by omega))) (fun c53 => ?_)
          refine v_aload_n 56 dX4_drop_56 rfl rfl ?_
          refine v_iload_n 57 dX4_drop_57 rfl rfl ?_
          refine m_call 58 [.int (nI k)] dX4_drop_58 cv_X4_82 (ct_goG (S := mI (mI S 0 0) 14 0) hds (gRep_congr hR rfl rfl rfl rfl) hkl) (fun r h' hq' => ?_)
          obtain ⟨rfl, S2, rfl, hs2, hG2⟩ := hq'
          refine v_iconst (v := 1) 61 dX4_drop_61 (by decide) ?_
          refine v_ist2 62 dX4_drop_62 ?_
          refine v_iload_n 63 dX4_drop_63 rfl rfl ?_
          refine v_iret 64 dX4_drop_64 rfl rfl ?_
          rw [erase_offGC hnd hk, hx.1, hx.2] at hG2
          exact ⟨_, _, rfl, rfl, Or.inr ⟨c2, c7, hs2.1 0 (by decide) (by decide), hs2.1 14 (by decide) (by decide), dSame_tr (dSame_tr (dSame_0 S 0) (dSame_14 _ 0)) (dSame_f (fSame_g hs2)), Or.inl ⟨c36, fRep_congr hFR (hs2.1 1 (by decide) (by decide)) (hs2.2 2 (by decide) (by decide)) (hs2.2 3 (by decide) (by decide)) (hs2.2 4 (by decide) (by decide)), hG2, Or.inl ⟨rfl, e, List.mem_of_getElem? hk, hx⟩⟩⟩⟩
        · rw [hix]
          refine v_ist3 51 dX4_drop_51 ?_
          refine v_iload_n 52 dX4_drop_52 rfl rfl ?_
          refine v_if_lt (tgt := 63) 53 dX4_drop_53 (by decide) (fun c53 => ?_) (fun c53 => absurd (by decide) c53)
          refine v_iload_n 63 dX4_drop_63 rfl rfl ?_
          refine v_iret 64 dX4_drop_64 rfl rfl ?_
          refine ⟨_, _, rfl, rfl, Or.inr ⟨c2, c7, rfl, rfl, dSame_tr (dSame_0 S 0) (dSame_14 _ 0), Or.inl ⟨c36, fRep_congr hFR rfl rfl rfl rfl, ?_, Or.inr ⟨rfl, hno⟩⟩⟩⟩
          rw [offGC_no hno]
          exact gRep_congr hR rfl rfl rfl rfl
    · refine v_iconst (v := 1) 10 dX4_drop_10 (by decide) ?_
      refine v_goto (tgt := 15) 11 dX4_drop_11 (by decide) ?_
      refine m_put 15 dX4_drop_15 fl_X4_45 ?_
      refine v_aload_n 18 dX4_drop_18 rfl rfl ?_
      refine v_getf 19 dX4_drop_19 fl_X4_45 mPut_o rfl ?_
      refine v_if_le (tgt := 27) 22 dX4_drop_22 (by decide) (fun c22 => absurd c22 (by rw [mI_s]; decide)) (fun c22 => ?_)
      refine v_iconst (v := 0) 25 dX4_drop_25 (by decide) ?_
      refine v_iret 26 dX4_drop_26 rfl rfl ?_
      refine ⟨_, _, rfl, rfl, Or.inl ⟨?_, rfl, rfl⟩⟩
      first
        | exact Or.inl c2
        | exact Or.inr c7

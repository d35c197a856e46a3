theorem vx_ofF {l : Launch} {y : MethodName} {ws ws' : List Cond} {rm : Room} {Pc : Array Value → State → Prop} {Qc : Array Value → State → Outcome → State → Prop} {XC : String → State → State → Prop} {mc ms : Nat} {free : Addr → Prop} {cc : ByteArray} {maxL : Nat} {ret : Option FieldType}
    (hy : plainFor y = true) (hw : ws = Cond.code y cc maxL ret :: ws')
    (body : ∀ p e s m args below meth c s₁, BodyLoose p l y (headSpec ws rm) cc maxL ret e s m args below meth c s₁ → c.maxLocals = maxL → (∀ x ∈ c.exceptionTable.toList, False) → Pc args s →
      W p l e (headSpec ws rm).room s m args below meth c s.heap [] 0 0 (vx_MQ below Qc XC args s mc ms free) (entryFrame m args maxL)) : vx_Met l y ws rm Pc Qc XC mc ms free := by
  refine MetFree.of_bodySF (code := cc) (maxLocals := maxL) (ret := ret) hy ?_ ?_
  · intro args s m h hn
    obtain ⟨meth, c, h1, h2, h3, h4, h5, h6, -, -⟩ := Cond.code_spec hn (atoms_spec (ws := ws) h _ (by rw [hw]; exact List.mem_cons_self))
    exact ⟨meth, c, h1, h2, h3, h4, h5, h6⟩
  · intro p e s m args below meth c s₁ B hml hP _
    have hh0 : s₁.heap = s.heap := by rw [B.state]; rfl
    have ht : ∀ x ∈ c.exceptionTable.toList, False := by
      obtain ⟨meth9, c9, h1, h2, -, -, -, -, h7, -⟩ := Cond.code_spec B.named (atoms_spec (ws := ws) B.pre _ (by rw [hw]; exact List.mem_cons_self))
      cases Option.some.inj (h1.symm.trans B.method)
      cases Option.some.inj (h2.symm.trans (Stand.of_body B).code)
      intro x hx
      rw [Array.isEmpty_iff.mp h7] at hx
      cases hx
    obtain ⟨t, a1, o, b1, b2, b3⟩ := body p e s m args below meth c s₁ B hml ht hP s₁ hh0 (Stand.of_body B)
    exact ⟨t, o, a1, b1, b2, b3⟩
/-- a contract of a member of a class that has natives -/
theorem ct_ofF {K : KT} {M : MT} {kc ks : Nat} {As : List Value} {h : AH} {Q : QR} {X : QX} {lv : List (Option Value)} (hy : plainFor M.1 = true) (hh : M.2.2.2.2.2 = []) (hs : (lg_sl As).length ≤ M.2.2.1)
    (hl : enl As ++ List.replicate (M.2.2.1 - (enl As).length) none = lv) (k : V K M 0 lv [] h kc ks Q X) : Ct K M kc ks As h Q X := by
  subst hl
  refine vx_ofF (cc := M.2.1) (maxL := M.2.2.1) (ret := M.2.2.2.1) hy rfl ?_
  intro p e s m args below meth c s₁ B hml hex hv
  obtain ⟨rfl, hP, hD, hB, hK⟩ := hv
  have hts := atoms_spec (ws := wsM M) B.pre
  have hl := lvh_entry As hs
  rw [lg_entry_eq]
  refine k kc ks p e s m As.toArray below meth c _ s.heap [] 0 0 _ ⟨B.exec, B.bytes, B.returns, hml, findClass_of_methodNamed B.named, B.notSynchronized, (name_of_methodNamed B.named B.method).1, fun w hw => hts w (List.mem_cons_of_mem _ hw), hK, hB, ⟨Nat.le_refl _, Nat.le_refl _, Nat.le_refl _, Nat.le_refl _⟩, ?_⟩ ⟨hP, hD, va_S.rf, hl, by omega, by omega⟩
  rw [hh]
  cases hq : c.exceptionTable.toList with
  | nil => rfl
  | cons a r => exact (hex a (by rw [hq]; exact List.mem_cons_self)).elim
set_option maxHeartbeats 4000000 in
set_option maxRecDepth 100000 in
theorem ct_max {K : KT} {h : AH} {a b : Int32} : Ct K mJ9_max_7cf53 0 0 [.int a, .int b] h (fun r h' => r = some (.int (if a < b then b else a)) ∧ h' = h) noX := by
  refine ct_ofF (by decide +kernel) rfl (Nat.le_of_ble_eq_true rfl) rfl ?_
  refine v_iload_n 0 dJ9_max_7cf53_0 rfl rfl ?_
  refine v_iload_n 1 dJ9_max_7cf53_1 rfl rfl ?_
  refine v_icmp_lt (tgt := 9) 2 dJ9_max_7cf53_2 (by decide) (fun c2 => ?_) (fun c2 => ?_)
  · refine v_iload_n 9 dJ9_max_7cf53_9 rfl rfl ?_
    refine v_iret 10 dJ9_max_7cf53_10 rfl rfl ?_
    refine ⟨?_, rfl⟩
    rw [if_pos c2]
  · refine v_iload_n 5 dJ9_max_7cf53_5 rfl rfl ?_
    refine v_goto (tgt := 10) 6 dJ9_max_7cf53_6 (by decide) ?_
    refine v_iret 10 dJ9_max_7cf53_10 rfl rfl ?_
    refine ⟨?_, rfl⟩
    rw [if_neg c2]
set_option maxHeartbeats 4000000 in
set_option maxRecDepth 100000 in
theorem ct_min {K : KT} {h : AH} {a b : Int32} : Ct K mJ9_min_7cf53 0 0 [.int a, .int b] h (fun r h' => r = some (.int (if b < a then b else a)) ∧ h' = h) noX := by
  refine ct_ofF (by decide +kernel) rfl (Nat.le_of_ble_eq_true rfl) rfl ?_
  refine v_iload_n 0 dJ9_min_7cf53_0 rfl rfl ?_
  refine v_iload_n 1 dJ9_min_7cf53_1 rfl rfl ?_
  refine v_icmp_gt (tgt := 9) 2 dJ9_min_7cf53_2 (by decide) (fun c2 => ?_) (fun c2 => ?_)
  · refine v_iload_n 9 dJ9_min_7cf53_9 rfl rfl ?_
    refine v_iret 10 dJ9_min_7cf53_10 rfl rfl ?_
    refine ⟨?_, rfl⟩
    rw [if_pos c2]
  · refine v_iload_n 5 dJ9_min_7cf53_5 rfl rfl ?_
    refine v_goto (tgt := 10) 6 dJ9_min_7cf53_6 (by decide) ?_
    refine v_iret 10 dJ9_min_7cf53_10 rfl rfl ?_
    refine ⟨?_, rfl⟩
    rw [if_neg c2]
set_option maxHeartbeats 4000000 in
set_option maxRecDepth 100000 in
theorem ct_chk3 {K : KT} {h : AH} {i n : Nat} (hi : i < n) (hn : n < 2 ^ 31) : Ct K mJ3_checkIndex_8e157 0 0 [.int (nI i), .int (nI n), .null] h (fun r h' => r = some (.int (nI i)) ∧ h' = h) noX := by
  refine ct_of (by decide +kernel) rfl (Nat.le_of_ble_eq_true rfl) rfl ?_
  refine v_iload_n 0 dJ3_checkIndex_8e157_0 rfl rfl ?_
  refine v_if_lt (tgt := 9) 1 dJ3_checkIndex_8e157_1 (by decide) (fun c1 => absurd c1 (nI_pos (by omega))) (fun c1 => ?_)
  refine v_iload_n 4 dJ3_checkIndex_8e157_4 rfl rfl ?_
  refine v_iload_n 5 dJ3_checkIndex_8e157_5 rfl rfl ?_
  refine v_icmp_lt (tgt := 16) 6 dJ3_checkIndex_8e157_6 (by decide) (fun c6 => ?_) (fun c6 => absurd (nI_lt hi hn) c6)
  refine v_iload_n 16 dJ3_checkIndex_8e157_16 rfl rfl ?_
  refine v_iret 17 dJ3_checkIndex_8e157_17 rfl rfl ?_
  exact ⟨rfl, rfl⟩
set_option maxHeartbeats 4000000 in
set_option maxRecDepth 100000 in
theorem ct_chk2 {K : KT} {h : AH} {i n : Nat} (hi : i < n) (hn : n < 2 ^ 31) : Ct K mJ15_checkIndex_7cf53 0 0 [.int (nI i), .int (nI n)] h (fun r h' => r = some (.int (nI i)) ∧ h' = h) noX := by
  refine ct_of (by decide +kernel) rfl (Nat.le_of_ble_eq_true rfl) rfl ?_
  refine v_iload_n 0 dJ15_checkIndex_7cf53_0 rfl rfl ?_
  refine v_iload_n 1 dJ15_checkIndex_7cf53_1 rfl rfl ?_
  refine v_null 2 dJ15_checkIndex_7cf53_2 ?_
  refine v_callS 3 0 0 [.int (nI i), .int (nI n), .null] dJ15_checkIndex_7cf53_3 cs_J15_105 (ct_chk3 hi hn) (fun r h' hq' => ?_) (fun _ _ z => z)
  obtain ⟨rfl, rfl⟩ := hq'
  refine v_iret 6 dJ15_checkIndex_7cf53_6 rfl rfl ?_
  exact ⟨rfl, rfl⟩
set_option maxHeartbeats 4000000 in
set_option maxRecDepth 100000 in
theorem ct_size {K : KT} {h : AH} {al : Nat} {a b : Value} {k : Int32} (hal : h al = some (.inr (0, [a, b, .int k]))) : Ct K mJx4a65c_size_8abf5 0 0 [.ref al] h (fun r h' => r = some (.int k) ∧ h' = h) noX := by
  refine ct_of (by decide +kernel) rfl (Nat.le_of_ble_eq_true rfl) rfl ?_
  refine v_aload_n 0 dJx4a65c_size_8abf5_0 rfl rfl ?_
  refine v_getf 1 dJx4a65c_size_8abf5_1 fl_Jx4a65c_48 hal rfl ?_
  refine v_iret 4 dJx4a65c_size_8abf5_4 rfl rfl ?_
  exact ⟨rfl, rfl⟩
set_option maxHeartbeats 4000000 in
set_option maxRecDepth 100000 in
theorem ct_elem {K : KT} {h : AH} {al ea cap n : Nat} {a : Value} {f : Nat → Option Nat} {i : Nat} (hal : h al = some (.inr (0, [a, .ref ea, .int (nI n)]))) (hea : h ea = some (.inl (.object "java/lang/Object", cap, .inr (.inr (.inr (.inr f)))))) (hi : i < n) (hn : n ≤ cap) (hc : cap < 2 ^ 31) : Ct K mJx4a65c_elementData_915e3 0 0 [.ref al, .int (nI i)] h (fun r h' => r = some (va_rf (f i)) ∧ h' = h) noX := by
  refine ct_of (by decide +kernel) rfl (Nat.le_of_ble_eq_true rfl) rfl ?_
  refine v_aload_n 0 dJx4a65c_elementData_915e3_0 rfl rfl ?_
  refine v_getf 1 dJx4a65c_elementData_915e3_1 fl_Jx4a65c_9 hal rfl ?_
  refine v_iload_n 4 dJx4a65c_elementData_915e3_4 rfl rfl ?_
  refine v_aald 5 dJx4a65c_elementData_915e3_5 hea (vp_in_nI (by omega) hc) ?_
  refine v_aret 6 dJx4a65c_elementData_915e3_6 rfl (Or.inl ⟨_, rfl⟩) ?_
  rw [nI_clamp (by omega)]
  exact ⟨rfl, rfl⟩
set_option maxHeartbeats 4000000 in
set_option maxRecDepth 100000 in
theorem ct_get {K : KT} {h : AH} {al ea cap n : Nat} {a : Value} {f : Nat → Option Nat} {i : Nat} (hal : h al = some (.inr (0, [a, .ref ea, .int (nI n)]))) (hea : h ea = some (.inl (.object "java/lang/Object", cap, .inr (.inr (.inr (.inr f)))))) (hi : i < n) (hn : n ≤ cap) (hc : cap < 2 ^ 31) : Ct K mJx4a65c_get_915e3 0 0 [.ref al, .int (nI i)] h (fun r h' => r = some (va_rf (f i)) ∧ h' = h) noX := by
  refine ct_of (by decide +kernel) rfl (Nat.le_of_ble_eq_true rfl) rfl ?_
  refine v_iload_n 0 dJx4a65c_get_915e3_0 rfl rfl ?_
  refine v_aload_n 1 dJx4a65c_get_915e3_1 rfl rfl ?_
  refine v_getf 2 dJx4a65c_get_915e3_2 fl_Jx4a65c_48 hal rfl ?_
  refine v_callS 5 0 0 [.int (nI i), .int (nI n)] dJx4a65c_get_915e3_5 cs_Jx4a65c_118 (ct_chk2 hi (by omega)) (fun r h' hq' => ?_) (fun _ _ z => z)
  obtain ⟨rfl, rfl⟩ := hq'
  refine v_pop 8 dJx4a65c_get_915e3_8 rfl ?_
  refine v_aload_n 9 dJx4a65c_get_915e3_9 rfl rfl ?_
  refine v_iload_n 10 dJx4a65c_get_915e3_10 rfl rfl ?_
  refine v_callV 11 0 0 [.int (nI i)] dJx4a65c_get_915e3_11 cv_Jx4a65c_123 (ct_elem hal hea hi hn hc) hal (fun r h' hq' => ?_) (fun _ _ z => z)
  obtain ⟨rfl, rfl⟩ := hq'
  refine v_aret 14 dJx4a65c_get_915e3_14 rfl (Or.inl ⟨_, rfl⟩) ?_
  exact ⟨rfl, rfl⟩

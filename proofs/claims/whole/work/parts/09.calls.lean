/-! ===== returns, calls, throws, statics, rows of references ===== -/
section CR
variable {K : KT} {M : MT} {lv : List (Option Value)} {st : List Value} {h : AH} {kc ks : Nat} {Q : QR} {X : QX}
theorem v_iret (pc : Nat) {v : Int32} {ty : FieldType} (hd : decode M.2.1 pc = .ok (.ireturn, 1)) (hr : M.2.2.2.1 = some ty) (hn : narrow ty (.int v) = .int v) (hq : Q (some (.int v)) h) : V K M pc lv [.int v] h kc ks Q X := by
  intro mc ms p e s m args below meth c R H locs cells slots ls C I
  obtain ⟨i1, i2, i3, i4, i5, i6⟩ := I
  refine W.widen (k := mc) (n := ms) (by omega) (by omega) (vx_ret ?_)
  exact W.zret C.1 C.2.1 (C.2.2.1.trans hr) hn (fun t ht hW => ⟨_, h, rfl, hq, by rw [ht]; exact i1.moved hW.alike, i2, i3.F ht⟩) i3.2.2 hd C.2.2.2.2.2.1
theorem v_lret (pc : Nat) {v : Int64} (hd : decode M.2.1 pc = .ok (.lreturn, 1)) (hr : M.2.2.2.1 = some .long) (hq : Q (some (.long v)) h) : V K M pc lv [.long v] h kc ks Q X := by
  intro mc ms p e s m args below meth c R H locs cells slots ls C I
  obtain ⟨i1, i2, i3, i4, i5, i6⟩ := I
  refine W.widen (k := mc) (n := ms) (by omega) (by omega) (vx_ret ?_)
  exact W.lret C.1 C.2.1 (C.2.2.1.trans hr) (fun t ht hW => ⟨_, h, rfl, hq, by rw [ht]; exact i1.moved hW.alike, i2, i3.F ht⟩) i3.2.2 hd C.2.2.2.2.2.1
theorem v_vret (pc : Nat) (hd : decode M.2.1 pc = .ok (.return_, 1)) (hr : M.2.2.2.1 = none) (hq : Q none h) : V K M pc lv [] h kc ks Q X := by
  intro mc ms p e s m args below meth c R H locs cells slots ls C I
  obtain ⟨i1, i2, i3, i4, i5, i6⟩ := I
  refine W.widen (k := mc) (n := ms) (by omega) (by omega) (vx_ret ?_)
  exact W.vret C.1 C.2.1 (C.2.2.1.trans hr) (fun t ht hW => ⟨_, h, rfl, hq, by rw [ht]; exact i1.moved hW.alike, i2, i3.F ht⟩) i3.2.2 hd C.2.2.2.2.2.1
theorem v_aret (pc : Nat) {v : Value} {ty : FieldType} (hd : decode M.2.1 pc = .ok (.areturn, 1)) (hr : M.2.2.2.1 = some ty) (hrt : (∃ n, ty = .object n) ∨ ∃ t, ty = .array t) (hq : Q (some v) h) (hv : isRf v := by first | exact isRf_r _ | exact isRf_n | exact isRf_o _ | assumption) : V K M pc lv [v] h kc ks Q X := by
  intro mc ms p e s m args below meth c R H locs cells slots ls C I
  obtain ⟨i1, i2, i3, i4, i5, i6⟩ := I
  refine W.widen (k := mc) (n := ms) (by omega) (by omega) (vx_ret ?_)
  exact W.aret C.1 C.2.1 (C.2.2.1.trans hr) hrt hv (fun t ht hW => ⟨_, h, rfl, hq, by rw [ht]; exact i1.moved hW.alike, i2, i3.F ht⟩) i3.2.2 hd C.2.2.2.2.2.1
/-- what a call of M' through the entry 'index' of 'own' asks of the tables -/
def CL (own : String) (index : Nat) (M' : MT) (n : Nat) : Prop := Cond.methodLink own index M'.1 ∈ gW ∧ Cond.code M'.1 M'.2.1 M'.2.2.1 M'.2.2.2.1 ∈ gW ∧ Cond.initialized M'.1.cls ∈ gW ∧ (M'.1.cls ≠ "java/lang/invoke/MethodHandle" ∧ M'.1.cls ≠ "java/lang/invoke/VarHandle") ∧ (parseMethodDescriptor M'.1.desc).map (fun d => d.parameters.length) = some n ∧ M'.2.2.1 ≤ 19
def CLv (own : String) (index : Nat) (M' : MT) (n ci : Nat) : Prop := CL own index M' n ∧ Cond.instanceMethod M'.1 ∈ gW ∧ Cond.selects M'.1.cls M'.1 M'.1 ∈ gW ∧ ∃ (T : u_T) (N : Nat), vwCl[ci]? = some (M'.1.cls, T, N)
def CLs (own : String) (index : Nat) (M' : MT) (n : Nat) : Prop := CL own index M' n ∧ Cond.static M'.1 ∈ gW
def CLi (own : String) (index : Nat) (M' : MT) (n : Nat) : Prop := CL own index M' n ∧ Cond.instanceMethod M'.1 ∈ gW ∧ M'.1.name = "<init>" ∧ M'.2.2.2.1 = none
theorem gW_warm {args : Array Value} {s : State} (hts : ∀ w ∈ gW, w.before args s = true) : ∀ w ∈ gW, ∀ (a' : Array Value) (U : State), s.WarmedH U.vm → w.before a' U = true := fun w hw a' U hW => word_at hW (good_of_word (List.mem_filter.mp hw).2) (hts w hw)
theorem CL.callB {own : String} {index : Nat} {M' : MT} {n kc' ks' : Nat} {R : Room} {s : State} {args : Array Value} (hts : ∀ w ∈ gW, w.before args s = true) (hL : CL own index M' n) (hlev : M'.2.2.2.2.1 + 1 ≤ M.2.2.2.2.1) (hR : M.2.2.2.2.1 ≤ R.frames ∧ 38 * M.2.2.2.2.1 ≤ R.locals) :
    CallB R s args own index M'.1 M'.2.1 M'.2.2.1 M'.2.2.2.1 (wsM M') (rmM M' kc' ks') kc' ks' n := by
  obtain ⟨h1, h2, h3, h4, h5, h6⟩ := hL
  refine ⟨rfl, rfl, ?_, ?_, ?_, List.mem_cons_self, hts _ h2, hts _ h3, h4, fun sig hs => ?_, hts _ h1⟩
  · show M'.2.2.2.2.1 + 1 ≤ R.frames
    omega
  · show 8 + (M'.2.2.1 + 11) + 38 * M'.2.2.2.2.1 ≤ R.locals
    omega
  · intro w hw
    rcases List.mem_cons.mp hw with rfl | hw
    · exact gW_warm hts _ h2
    · exact gW_warm hts w hw
  · rw [hs] at h5
    exact (Option.some.inj h5).symm
theorem pC.at {As : List Value} {s : State} {H : Heap} {locs : List Loc} (h1 : hold K.2.1 s h H) (h2 : domOk K h) (h3 : va_S (kA K) s.heap H locs) (hB : baseOk K s.heap) (hK : KW K s) : ∀ U : State, U.heap = H → s.WarmedH U.vm → pC K As h As.toArray U := fun U hU hW =>
  ⟨rfl, by rw [hU]; exact h1.moved hW.alike, h2, by
    rw [hU]
    exact ⟨Nat.le_trans hB.1 h3.1, fun q hq => (h3.2.1 q (Nat.lt_of_lt_of_le hq hB.1) (fun hk => absurd hk (Nat.not_le.mpr hq))).trans (hB.2 q hq)⟩, hK.warm hW⟩
/-- behind a call that can't throw -/
theorem v_run {mc ms : Nat} {p : Program} {e : Env} {s : State} {m : MethodId} {args : Array Value} {below : List Frame} {meth : Method} {c : Code} {R : Room} {H : Heap} {locs : List Loc} {cells slots : Nat} {ls : Array Slot} {pc kc' ks' kc1 ks1 : Nat} {st0 : List Value} {a : Array Value} {Q' : QR} {X' : QX}
    (C : VC K M mc ms p s m args meth c R) (I : VI K M mc ms s lv h kc ks H locs cells slots ls) (hk : kc' + kc1 ≤ kc) (hs : ks' + ks1 ≤ ks)
    (hr : vx_Run p K.1 e R s m args below meth c H locs cells slots kc' ks' (F0 m pc ls st0) st (qR K Q' a) (qX K X') (kA K)) (hx : ∀ E h', X' E h' → False)
    (kk : ∀ r h', Q' r h' → V K M (pc + 3) lv (r.toList ++ st) h' kc1 ks1 Q X) : W p K.1 e R s m args below meth c H locs cells slots (vx_MQ below (qR K Q) (qX K X) args s mc ms (kA K)) (F0 m pc ls st0) := by
  obtain ⟨i1, i2, i3, i4, i5, i6⟩ := I
  intro T hT Y
  rcases hr T hT Y with ⟨v, st₀, t, T', L, h0, Y', hL, e1, e2, ⟨r, h', hv, hq, hP, hD, hF⟩, go⟩ | ⟨q, st₀, t, T', L, E, ce, h0, Y', hL, e1, e2, ⟨h', hq, -⟩, -⟩
  · cases hv
    have hS' : va_S (kA K) s.heap T'.heap (locs ++ L) := by
      obtain ⟨hz, hk9⟩ := hF
      rw [h0] at hz hk9
      refine ⟨Nat.le_trans i3.1 (by rw [e1]; exact hz), fun q h1 h2 => ?_, fun q hq => ?_⟩
      · rw [e1, hk9 q (Nat.lt_of_lt_of_le h1 i3.1) h2]; exact i3.2.1 q h1 h2
      · rcases List.mem_append.mp hq with h | h
        · exact i3.2.2 q h
        · exact hL q h
    have hal : t.vm.Alike s.vm := by rw [← e2]; exact Y'.warmed.alike.symm
    obtain ⟨t2, a1, b1⟩ := kk v h' hq mc ms p e s m args below meth c R T'.heap (locs ++ L) (cells + kc') (slots + ks') ls C ⟨by rw [e1]; exact hP.moved hal, hD, hS', i4, by omega, by omega⟩ T' rfl Y'
    exact ⟨t2, go t2 a1, b1⟩
  · exact (hx E h' hq).elim
theorem v_callV (pc : Nat) {index n ci b kc' ks' : Nat} (kc1 ks1 : Nat) {M' : MT} {fs : List Value} (As : List Value) {Q' : QR} {X' : QX} (hd : decode M.2.1 pc = .ok (.invokevirtual index, 3)) (hL : CLv M.1.cls index M' n ci) (hct : Ct K M' kc' ks' (.ref b :: As) h Q' X') (hb : h b = some (.inr (ci, fs))) (kk : ∀ r h', Q' r h' → V K M (pc + 3) lv (r.toList ++ st) h' kc1 ks1 Q X)
    (hx : ∀ E h', X' E h' → False := by exact fun _ _ z => z) (hn : As.length = n := by rfl) (hlev : M'.2.2.2.2.1 + 1 ≤ M.2.2.2.2.1 := by decide) (hst : (st.map fun v => v.category).sum ≤ 8 := by exact Nat.le_of_ble_eq_true rfl) (hk : kc' + kc1 ≤ kc := by omega) (hs : ks' + ks1 ≤ ks := by omega) : V K M pc lv (As.reverse ++ .ref b :: st) h kc ks Q X := by
  intro mc ms p e s m args below meth c R H locs cells slots ls C I
  obtain ⟨hL0, hL1, hL2, T, N, hci⟩ := hL
  have hts := C.2.2.2.2.2.2.2.1
  have hR := C.2.2.2.2.2.2.2.2.2.2.1
  have hKW := C.2.2.2.2.2.2.2.2.1
  have hI5 := I.2.2.2.2.1
  have hI6 := I.2.2.2.2.2
  have hrc : ∃ cell : Cell, H[b]? = some cell ∧ cell.vm.isStatics = false ∧ s.vm.findClass M'.1.cls = some cell.cls := by
    obtain ⟨r', h1, cell, g1, g2, g3, -⟩ := I.1 b _ hb
    exact ⟨cell, g1, by rw [g3]; rfl, by rw [g2]; exact (hKW.2.1.1 ci _ hci).2.1⟩
  refine v_run C I hk hs (vx_runV (b := b) (As := As) (rest := st) (C := M'.1.cls) (index := index) (n := n) ⟨C.1, C.2.1, C.2.2.2.1, C.2.2.2.2.1, hts⟩ hct ⟨hL0.callB (M := M) hts hlev ⟨hR.1, hR.2.1⟩, hts _ hL1, hts _ hL2⟩ ⟨pC.blind, hrc, pC.at I.1 I.2.1 I.2.2.1 C.2.2.2.2.2.2.2.2.2.1 hKW⟩ rfl hn I.2.2.2.1.1 rfl (lv_room hst) hd ⟨by omega, by omega⟩) hx kk
theorem v_callS (pc : Nat) {index n kc' ks' : Nat} (kc1 ks1 : Nat) {M' : MT} (As : List Value) {Q' : QR} {X' : QX} (hd : decode M.2.1 pc = .ok (.invokestatic index, 3)) (hL : CLs M.1.cls index M' n) (hct : Ct K M' kc' ks' As h Q' X') (kk : ∀ r h', Q' r h' → V K M (pc + 3) lv (r.toList ++ st) h' kc1 ks1 Q X)
    (hx : ∀ E h', X' E h' → False := by exact fun _ _ z => z) (hn : As.length = n := by rfl) (hlev : M'.2.2.2.2.1 + 1 ≤ M.2.2.2.2.1 := by decide) (hst : (st.map fun v => v.category).sum ≤ 8 := by exact Nat.le_of_ble_eq_true rfl) (hk : kc' + kc1 ≤ kc := by omega) (hs : ks' + ks1 ≤ ks := by omega) : V K M pc lv (As.reverse ++ st) h kc ks Q X := by
  intro mc ms p e s m args below meth c R H locs cells slots ls C I
  obtain ⟨hL0, hL1⟩ := hL
  have hts := C.2.2.2.2.2.2.2.1
  have hR := C.2.2.2.2.2.2.2.2.2.2.1
  have hKW := C.2.2.2.2.2.2.2.2.1
  have hI5 := I.2.2.2.2.1
  have hI6 := I.2.2.2.2.2
  refine v_run C I hk hs (vx_runS (As := As) (rest := st) (index := index) (n := n) ⟨C.1, C.2.1, C.2.2.2.1, C.2.2.2.2.1, hts⟩ hct ⟨hL0.callB (M := M) hts hlev ⟨hR.1, hR.2.1⟩, hts _ hL1⟩ ⟨pC.blind, pC.at I.1 I.2.1 I.2.2.1 C.2.2.2.2.2.2.2.2.2.1 hKW⟩ rfl hn I.2.2.2.1.1 rfl (lv_room hst) hd ⟨by omega, by omega⟩) hx kk
end CR

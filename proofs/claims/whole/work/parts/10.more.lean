/-! ===== constructors, nest mates, constants, statics, rows of references, casts ===== -/
section MR
variable {K : KT} {M : MT} {lv : List (Option Value)} {st : List Value} {h : AH} {kc ks : Nat} {Q : QR} {X : QX}
theorem ct_met {M' : MT} {As : List Value} {kc' ks' : Nat} {Q' : QR} {X' : QX} (hc : Ct K M' kc' ks' As h Q' X') (hx : ∀ E h', X' E h' → False) : Met K.1 M'.1 (wsM M') (rmM M' kc' ks') (pC K As h) (qR K Q') kc' ks' (kA K) := by
  intro p e ha hcs hk s m args below hf happ hP hK
  obtain ⟨n, o, h1, h2, h3, h4⟩ := hc p e ha hcs hk s m args below hf happ hP hK
  refine ⟨n, o, h1, h2, h3, ?_⟩
  rcases h4 with h4 | ⟨q, e1, E, ce, L, ⟨h', e2, e3⟩, h6⟩
  · exact h4
  · exact (hx E h' e2).elim
theorem v_run0 {mc ms : Nat} {p : Program} {e : Env} {s : State} {m : MethodId} {args : Array Value} {below : List Frame} {meth : Method} {c : Code} {R : Room} {H : Heap} {locs : List Loc} {cells slots : Nat} {ls : Array Slot} {pc kc' ks' kc1 ks1 : Nat} {st0 : List Value} {a : Array Value} {Q' : QR}
    (C : VC K M mc ms p s m args meth c R) (I : VI K M mc ms s lv h kc ks H locs cells slots ls) (hk : kc' + kc1 ≤ kc) (hs : ks' + ks1 ≤ ks)
    (hr : va_Run p K.1 e R s m args below meth c H locs cells slots kc' ks' (F0 m pc ls st0) st (qR K Q' a) (kA K))
    (kk : ∀ r h', Q' r h' → V K M (pc + 3) lv (r.toList ++ st) h' kc1 ks1 Q X) : W p K.1 e R s m args below meth c H locs cells slots (vx_MQ below (qR K Q) (qX K X) args s mc ms (kA K)) (F0 m pc ls st0) :=
  v_run C I hk hs (X' := noX) (fun T hT Y => Or.inl (hr T hT Y)) (fun _ _ z => z) kk
theorem v_callI (pc : Nat) {index n b kc' ks' : Nat} (kc1 ks1 : Nat) {M' : MT} (As : List Value) {Q' : QR} {X' : QX} (hd : decode M.2.1 pc = .ok (.invokespecial index, 3)) (hL : CLi M.1.cls index M' n) (hct : Ct K M' kc' ks' (.ref b :: As) h Q' X') (kk : ∀ r h', Q' r h' → V K M (pc + 3) lv (r.toList ++ st) h' kc1 ks1 Q X)
    (hx : ∀ E h', X' E h' → False := by exact fun _ _ z => z) (hn : As.length = n := by rfl) (hlev : M'.2.2.2.2.1 + 1 ≤ M.2.2.2.2.1 := by decide) (hst : (st.map fun v => v.category).sum ≤ 8 := by exact Nat.le_of_ble_eq_true rfl) (hk : kc' + kc1 ≤ kc := by omega) (hs : ks' + ks1 ≤ ks := by omega) : V K M pc lv (As.reverse ++ .ref b :: st) h kc ks Q X := by
  intro mc ms p e s m args below meth c R H locs cells slots ls C I
  obtain ⟨hL0, hL1, hL2, hL3⟩ := hL
  have hts := C.2.2.2.2.2.2.2.1
  have hR := C.2.2.2.2.2.2.2.2.2.2.1
  have hKW := C.2.2.2.2.2.2.2.2.1
  have hI5 := I.2.2.2.2.1
  have hI6 := I.2.2.2.2.2
  have hcb := hL0.callB (M := M) (kc' := kc') (ks' := ks') hts hlev ⟨hR.1, hR.2.1⟩
  rw [hL3] at hcb
  exact v_run0 C I hk hs (va_runI (b := b) (As := As) (rest := st) (index := index) (n := n) ⟨C.1, C.2.1, C.2.2.2.1, C.2.2.2.2.1, hts⟩ (ct_met hct hx) ⟨hcb, hL2, hts _ hL1⟩ ⟨pC.blind, pC.at I.1 I.2.1 I.2.2.1 C.2.2.2.2.2.2.2.2.2.1 hKW⟩ rfl hn I.2.2.2.1.1 rfl (lv_room hst) hd ⟨by omega, by omega⟩) kk
/-- a private member of a nest mate -/
def CN (own : String) (index : Nat) (M' : MT) (n : Nat) : Prop := Cond.methodLinkNest own index M'.1 "FontShelf" ∈ nwW ∧ Cond.code M'.1 M'.2.1 M'.2.2.1 M'.2.2.2.1 ∈ gW ∧ Cond.initialized M'.1.cls ∈ gW ∧ (M'.1.cls ≠ "java/lang/invoke/MethodHandle" ∧ M'.1.cls ≠ "java/lang/invoke/VarHandle") ∧ (parseMethodDescriptor M'.1.desc).map (fun d => d.parameters.length) = some n ∧ M'.2.2.1 ≤ 19
theorem CN.callB {own : String} {index : Nat} {M' : MT} {n kc' ks' : Nat} {R : Room} {s : State} {args : Array Value} (hts : ∀ w ∈ gW, w.before args s = true) (hK : KW K s) (hL : CN own index M' n) (hlev : M'.2.2.2.2.1 + 1 ≤ M.2.2.2.2.1) (hR : M.2.2.2.2.1 ≤ R.frames ∧ 38 * M.2.2.2.2.1 ≤ R.locals) :
    va_CN R s args own index M'.1 "FontShelf" M'.2.1 M'.2.2.1 M'.2.2.2.1 (wsM M') (rmM M' kc' ks') kc' ks' n := by
  obtain ⟨h1, h2, h3, h4, h5, h6⟩ := hL
  refine ⟨⟨rfl, rfl, ?_, ?_, ?_, List.mem_cons_self⟩, hts _ h2, hts _ h3, h4, fun sig hs => ?_, va_Nw.use rfl (hK.2.2.2.1 _ h1)⟩
  · show M'.2.2.2.2.1 + 1 ≤ R.frames
    omega
  · show 8 + (M'.2.2.1 + 11) + 38 * M'.2.2.2.2.1 ≤ R.locals
    omega
  · intro w hw
    rcases List.mem_cons.mp hw with rfl | hw
    · exact gW_warm hts _ h2
    · exact gW_warm hts w hw
  · rw [hs] at h5
    exact (Option.some.inj h5).symm
theorem v_callSN (pc : Nat) {index n kc' ks' : Nat} (kc1 ks1 : Nat) {M' : MT} (As : List Value) {Q' : QR} {X' : QX} (hd : decode M.2.1 pc = .ok (.invokestatic index, 3)) (hL : CN M.1.cls index M' n) (hL1 : Cond.static M'.1 ∈ gW) (hct : Ct K M' kc' ks' As h Q' X') (kk : ∀ r h', Q' r h' → V K M (pc + 3) lv (r.toList ++ st) h' kc1 ks1 Q X)
    (hx : ∀ E h', X' E h' → False := by exact fun _ _ z => z) (hn : As.length = n := by rfl) (hlev : M'.2.2.2.2.1 + 1 ≤ M.2.2.2.2.1 := by decide) (hst : (st.map fun v => v.category).sum ≤ 8 := by exact Nat.le_of_ble_eq_true rfl) (hk : kc' + kc1 ≤ kc := by omega) (hs : ks' + ks1 ≤ ks := by omega) : V K M pc lv (As.reverse ++ st) h kc ks Q X := by
  intro mc ms p e s m args below meth c R H locs cells slots ls C I
  have hts := C.2.2.2.2.2.2.2.1
  have hR := C.2.2.2.2.2.2.2.2.2.2.1
  have hKW := C.2.2.2.2.2.2.2.2.1
  have hI5 := I.2.2.2.2.1
  have hI6 := I.2.2.2.2.2
  exact v_run0 C I hk hs (va_runSN (As := As) (rest := st) (index := index) (n := n) ⟨C.1, C.2.1, C.2.2.2.1, C.2.2.2.2.1, hts⟩ (ct_met hct hx) ⟨hL.callB (M := M) hts hKW hlev ⟨hR.1, hR.2.1⟩, hts _ hL1, trivial⟩ ⟨pC.blind, pC.at I.1 I.2.1 I.2.2.1 C.2.2.2.2.2.2.2.2.2.1 hKW⟩ rfl hn I.2.2.2.1.1 rfl (lv_room hst) hd ⟨by omega, by omega⟩) kk
theorem v_callIN (pc : Nat) {index n b kc' ks' : Nat} (kc1 ks1 : Nat) {M' : MT} (As : List Value) {Q' : QR} {X' : QX} (hd : decode M.2.1 pc = .ok (.invokespecial index, 3)) (hL : CN M.1.cls index M' n) (hL1 : Cond.instanceMethod M'.1 ∈ gW) (hL2 : M'.1.name = "<init>") (hL3 : M'.2.2.2.1 = none) (hct : Ct K M' kc' ks' (.ref b :: As) h Q' X') (kk : ∀ r h', Q' r h' → V K M (pc + 3) lv (r.toList ++ st) h' kc1 ks1 Q X)
    (hx : ∀ E h', X' E h' → False := by exact fun _ _ z => z) (hn : As.length = n := by rfl) (hlev : M'.2.2.2.2.1 + 1 ≤ M.2.2.2.2.1 := by decide) (hst : (st.map fun v => v.category).sum ≤ 8 := by exact Nat.le_of_ble_eq_true rfl) (hk : kc' + kc1 ≤ kc := by omega) (hs : ks' + ks1 ≤ ks := by omega) : V K M pc lv (As.reverse ++ .ref b :: st) h kc ks Q X := by
  intro mc ms p e s m args below meth c R H locs cells slots ls C I
  have hts := C.2.2.2.2.2.2.2.1
  have hR := C.2.2.2.2.2.2.2.2.2.2.1
  have hKW := C.2.2.2.2.2.2.2.2.1
  have hI5 := I.2.2.2.2.1
  have hI6 := I.2.2.2.2.2
  have hcb := hL.callB (M := M) (kc' := kc') (ks' := ks') hts hKW hlev ⟨hR.1, hR.2.1⟩
  rw [hL3] at hcb
  exact v_run0 C I hk hs (va_runIN (b := b) (As := As) (rest := st) (index := index) (n := n) ⟨C.1, C.2.1, C.2.2.2.1, C.2.2.2.2.1, hts⟩ (ct_met hct hx) ⟨hcb, hL2, hts _ hL1⟩ ⟨pC.blind, pC.at I.1 I.2.1 I.2.2.1 C.2.2.2.2.2.2.2.2.2.1 hKW⟩ rfl hn I.2.2.2.1.1 rfl (lv_room hst) hd ⟨by omega, by omega⟩) kk
theorem v_objInit (pc : Nat) {index a : Nat} (hd : decode M.2.1 pc = .ok (.invokespecial index, 3)) (h1 : Cond.methodLink M.1.cls index objectInit ∈ gW) (h2 : Cond.instanceMethod objectInit ∈ gW) (h3 : Cond.code objectInit ⟨#[0xb1]⟩ 1 none ∈ gW) (kk : V K M (pc + 3) lv st h kc ks Q X) (hlev : 1 ≤ M.2.2.2.2.1 := by decide) (hst : (st.map fun v => v.category).sum ≤ 8 := by exact Nat.le_of_ble_eq_true rfl) : V K M pc lv (.ref a :: st) h kc ks Q X := by
  intro mc ms p e s m args below meth c R H locs cells slots ls C I
  have hts := C.2.2.2.2.2.2.2.1
  have hR := C.2.2.2.2.2.2.2.2.2.2.1
  refine W.objInit C.1 C.2.1 C.2.2.2.2.1 (hts _ h1) (hts _ h2) (hts _ h3) rfl (by rw [C.2.2.2.1]; exact I.2.2.2.1.1) rfl hd (by omega) ?_ (kk mc ms p e s m args below meth c R H locs cells slots ls C I)
  show 2 * 0 + _ + 12 ≤ _
  omega
theorem v_ldc (pc : Nat) {index : Nat} {v : Int32} (hd : decode M.2.1 pc = .ok (.ldc index, 2)) (hw : Cond.constant M.1.cls index v ∈ gW) (kk : V K M (pc + 2) lv (.int v :: st) h kc ks Q X) : V K M pc lv st h kc ks Q X :=
  fun mc ms p e s m args below meth c R H locs cells slots ls C I => lv_ldc C.1 C.2.1 C.2.2.2.2.1 (C.2.2.2.2.2.2.2.1 _ hw) hd (kk mc ms p e s m args below meth c R H locs cells slots ls C I)
theorem v_ldcw (pc : Nat) {index : Nat} {v : Int32} (hd : decode M.2.1 pc = .ok (.ldc_w index, 3)) (hw : Cond.constant M.1.cls index v ∈ gW) (kk : V K M (pc + 3) lv (.int v :: st) h kc ks Q X) : V K M pc lv st h kc ks Q X :=
  fun mc ms p e s m args below meth c R H locs cells slots ls C I => lv_ldcw C.1 C.2.1 C.2.2.2.2.1 (C.2.2.2.2.2.2.2.1 _ hw) hd (kk mc ms p e s m args below meth c R H locs cells slots ls C I)
theorem v_ldc2 (pc : Nat) {index : Nat} {v : Int64} (hd : decode M.2.1 pc = .ok (.ldc2_w index, 3)) (hw : Cond.constantLong M.1.cls index v ∈ gW) (kk : V K M (pc + 3) lv (.long v :: st) h kc ks Q X) : V K M pc lv st h kc ks Q X :=
  fun mc ms p e s m args below meth c R H locs cells slots ls C I => lv_ldc2 C.1 C.2.1 C.2.2.2.2.1 (C.2.2.2.2.2.2.2.1 _ hw) hd (kk mc ms p e s m args below meth c R H locs cells slots ls C I)
/-- the statics: 0 LEAST_VALUE, 1 GREATEST_VALUE, 2 FIRST_DRAFT, 3 ArrayList's empty row -/
theorem v_gets0 (pc : Nat) {index : Nat} (hd : decode M.2.1 pc = .ok (.getstatic index, 3)) (hw : Cond.fieldLink M.1.cls index "FontShelf" "LEAST_VALUE" "[I" ∈ gW) (kk : V K M (pc + 3) lv (.ref (K.2.2.2 0) :: st) h kc ks Q X) : V K M pc lv st h kc ks Q X :=
  fun mc ms p e s m args below meth c R H locs cells slots ls C I => va_gets C.1 C.2.1 (KW.lstZ C.2.2.2.2.2.2.2.2.2.1 C.2.2.2.2.2.2.2.2.1.2.2.1.1) I.2.2.1 C.2.2.2.2.1 (C.2.2.2.2.2.2.2.1 _ hw) (fun _ z => z) hd (kk mc ms p e s m args below meth c R H locs cells slots ls C I)
theorem v_gets1 (pc : Nat) {index : Nat} (hd : decode M.2.1 pc = .ok (.getstatic index, 3)) (hw : Cond.fieldLink M.1.cls index "FontShelf" "GREATEST_VALUE" "[I" ∈ gW) (kk : V K M (pc + 3) lv (.ref (K.2.2.2 1) :: st) h kc ks Q X) : V K M pc lv st h kc ks Q X :=
  fun mc ms p e s m args below meth c R H locs cells slots ls C I => va_gets C.1 C.2.1 (KW.lstZ C.2.2.2.2.2.2.2.2.2.1 C.2.2.2.2.2.2.2.2.1.2.2.1.2.2.1) I.2.2.1 C.2.2.2.2.1 (C.2.2.2.2.2.2.2.1 _ hw) (fun _ z => z) hd (kk mc ms p e s m args below meth c R H locs cells slots ls C I)
theorem v_gets2 (pc : Nat) {index : Nat} (hd : decode M.2.1 pc = .ok (.getstatic index, 3)) (hw : Cond.fieldLink M.1.cls index "FontShelf" "FIRST_DRAFT" "[I" ∈ gW) (kk : V K M (pc + 3) lv (.ref (K.2.2.2 2) :: st) h kc ks Q X) : V K M pc lv st h kc ks Q X :=
  fun mc ms p e s m args below meth c R H locs cells slots ls C I => va_gets C.1 C.2.1 (KW.lstZ C.2.2.2.2.2.2.2.2.2.1 C.2.2.2.2.2.2.2.2.1.2.2.1.2.2.2.2.1) I.2.2.1 C.2.2.2.2.1 (C.2.2.2.2.2.2.2.1 _ hw) (fun _ z => z) hd (kk mc ms p e s m args below meth c R H locs cells slots ls C I)
theorem v_gets2N (pc : Nat) (hM : M.1.cls = RX0) (hd : decode M.2.1 pc = .ok (.getstatic 9, 3)) (kk : V K M (pc + 3) lv (.ref (K.2.2.2 2) :: st) h kc ks Q X) : V K M pc lv st h kc ks Q X := by
  intro mc ms p e s m args below meth c R H locs cells slots ls C I
  have ho := C.2.2.2.2.1
  rw [hM] at ho
  exact va_getsN C.1 C.2.1 (KW.lstZ C.2.2.2.2.2.2.2.2.2.1 C.2.2.2.2.2.2.2.2.1.2.2.1.2.2.2.2.1) I.2.2.1 ho (va_Nw.use rfl C.2.2.2.2.2.2.2.2.1.2.2.2.2.1) (fun _ z => z) hd (kk mc ms p e s m args below meth c R H locs cells slots ls C I)
theorem v_gets3 (pc : Nat) {index : Nat} (hd : decode M.2.1 pc = .ok (.getstatic index, 3)) (hw : Cond.fieldLink M.1.cls index "java/util/ArrayList" "DEFAULTCAPACITY_EMPTY_ELEMENTDATA" "[Ljava/lang/Object;" ∈ gW) (kk : V K M (pc + 3) lv (.ref (K.2.2.2 3) :: st) h kc ks Q X) : V K M pc lv st h kc ks Q X :=
  fun mc ms p e s m args below meth c R H locs cells slots ls C I => va_gets C.1 C.2.1 (KW.lstZ C.2.2.2.2.2.2.2.2.2.1 C.2.2.2.2.2.2.2.2.1.2.2.1.2.2.2.2.2.2.1) I.2.2.1 C.2.2.2.2.1 (C.2.2.2.2.2.2.2.1 _ hw) (fun _ z => z) hd (kk mc ms p e s m args below meth c R H locs cells slots ls C I)
theorem v_tld0 (pc : Nat) {i : Int32} (hd : decode M.2.1 pc = .ok (.iaload, 1)) (hin : vp_in i 7) (kk : V K M (pc + 1) lv (.int (lstV i.toNatClampNeg) :: st) h kc ks Q X) : V K M pc lv (.int i :: .ref (K.2.2.2 0) :: st) h kc ks Q X :=
  fun mc ms p e s m args below meth c R H locs cells slots ls C I => va_ti C.1 C.2.1 (KW.lstT C.2.2.2.2.2.2.2.2.2.1 C.2.2.2.2.2.2.2.2.1.2.2.1.2.1) I.2.2.1 hin rfl hd (kk mc ms p e s m args below meth c R H locs cells slots ls C I)
theorem v_tld1 (pc : Nat) {i : Int32} (hd : decode M.2.1 pc = .ok (.iaload, 1)) (hin : vp_in i 7) (kk : V K M (pc + 1) lv (.int (grtV i.toNatClampNeg) :: st) h kc ks Q X) : V K M pc lv (.int i :: .ref (K.2.2.2 1) :: st) h kc ks Q X :=
  fun mc ms p e s m args below meth c R H locs cells slots ls C I => va_ti C.1 C.2.1 (KW.lstT C.2.2.2.2.2.2.2.2.2.1 C.2.2.2.2.2.2.2.2.1.2.2.1.2.2.2.1) I.2.2.1 hin rfl hd (kk mc ms p e s m args below meth c R H locs cells slots ls C I)
theorem v_alen (pc : Nat) {a : Nat} {ty : FieldType} {x : vp_A} (hd : decode M.2.1 pc = .ok (.arraylength, 1)) (ha : h a = some (.inl (ty, x))) (kk : V K M (pc + 1) lv (.int (nI x.1) :: st) h kc ks Q X) : V K M pc lv (.ref a :: st) h kc ks Q X := by
  intro mc ms p e s m args below meth c R H locs cells slots ls C I
  obtain ⟨cA, h1, h2, h3⟩ := I.1 a _ ha
  have k9 := kk mc ms p e s m args below meth c R H locs cells slots ls C I
  obtain ⟨n, f | f | f | f | f⟩ := x
  · exact W.alen (n := Int32.ofNat n) C.1 C.2.1 h3 (h1 n (fun j => .int (f j))) (by rw [vp_cell_i, arrV_size] <;> rfl) rfl rfl hd k9
  · exact W.alen (n := Int32.ofNat n) C.1 C.2.1 h3 (h1 n (fun j => .long (f j))) (by rw [vp_cell_l, arrV_size] <;> rfl) rfl rfl hd k9
  · exact W.alen (n := Int32.ofNat n) C.1 C.2.1 h3 (h1 n (fun j => .float (f j))) (by rw [vp_cell_f, arrV_size] <;> rfl) rfl rfl hd k9
  · exact W.alen (n := Int32.ofNat n) C.1 C.2.1 h3 (h1 n (fun j => .double (f j))) (by rw [vp_cell_d, arrV_size] <;> rfl) rfl rfl hd k9
  · exact W.alen (n := Int32.ofNat n) C.1 C.2.1 h3 (h1 n (fun j => va_rf (f j))) (by rw [vp_cell_q, arrV_size] <;> rfl) rfl rfl hd k9
theorem v_aald (pc : Nat) {a n : Nat} {C0 : String} {f : Nat → Option Nat} {i : Int32} (hd : decode M.2.1 pc = .ok (.aaload, 1)) (ha : h a = some (.inl (.object C0, n, .inr (.inr (.inr (.inr f)))))) (hin : vp_in i n) (kk : V K M (pc + 1) lv (va_rf (f i.toNatClampNeg) :: st) h kc ks Q X) : V K M pc lv (.int i :: .ref a :: st) h kc ks Q X := by
  intro mc ms p e s m args below meth c R H locs cells slots ls C I
  obtain ⟨cA, h1, h2, h3⟩ := I.1 a _ ha
  have hlt : i.toNatClampNeg < n := Nat.not_le.mp fun q => hin (Or.inr q)
  exact W.aald (v := va_rf (f i.toNatClampNeg)) (ty := .object C0) C.1 C.2.1 h3 (h1 n (fun j => va_rf (f j))) rfl (fun q => by cases q) (by show ¬ (i < 0 ∨ (arrV _ _ _).slots.size ≤ _); rw [arrV_size]; exact hin) (by show (arrV _ _ _).slots[_]? = _; rw [arrV_read _ _ hlt]) rfl rfl hd (kk mc ms p e s m args below meth c R H locs cells slots ls C I)
theorem v_aastN (pc : Nat) {a n : Nat} {C0 : String} {f : Nat → Option Nat} {i : Int32} (hd : decode M.2.1 pc = .ok (.aastore, 1)) (ha : h a = some (.inl (.object C0, n, .inr (.inr (.inr (.inr f)))))) (hin : vp_in i n) (kk : V K M (pc + 1) lv st (hup h a (.inl (.object C0, n, .inr (.inr (.inr (.inr (va_up f i.toNatClampNeg none))))))) kc ks Q X) : V K M pc lv (.null :: .int i :: .ref a :: st) h kc ks Q X := by
  intro mc ms p e s m args below meth c R H locs cells slots ls C I
  obtain ⟨cA, h1, h2, h3⟩ := I.1 a _ ha
  refine va_WaastN (C := C0) C.1 C.2.1 h3 (h1 n (fun j => va_rf (f j))) (fun h => by cases h) (by show ¬ (i < 0 ∨ (arrV _ _ _).slots.size ≤ _); rw [arrV_size]; exact hin) rfl rfl hd fun H1 e1 z oq => ?_
  refine kk mc ms p e s m args below meth c R H1 _ cells slots ls C ⟨I.1.upd oq ⟨cA, h1, h2, ?_⟩, dom_up I.2.1 ha, I.2.2.1.put z oq (I.2.1 a _ ha), I.2.2.2⟩
  show H1[a]? = some (vp_cell _ _)
  rw [e1]
  rw [vp_cell_q, vp_cell_q, arrV_store]
  congr 2
  funext q
  by_cases hq : q = i.toNatClampNeg
  · subst hq
    simp [updV, va_up, va_rf]
  · simp [updV, va_up, hq]
/-- an object of the class ci may lie in a row of E: of its own class, or a class that the tables say can be cast -/
def asgOk (ci : Nat) (E : String) : Prop := ∃ (C : String) (T : u_T) (N : Nat), vwCl[ci]? = some (C, T, N) ∧ (C = E ∨ (C, E) ∈ ncW)
theorem v_aast (pc : Nat) {a n v ci : Nat} {E : String} {f : Nat → Option Nat} {fs : List Value} {i : Int32} (hd : decode M.2.1 pc = .ok (.aastore, 1)) (ha : h a = some (.inl (.object E, n, .inr (.inr (.inr (.inr f)))))) (hv : h v = some (.inr (ci, fs))) (has : asgOk ci E) (hin : vp_in i n) (kk : V K M (pc + 1) lv st (hup h a (.inl (.object E, n, .inr (.inr (.inr (.inr (va_up f i.toNatClampNeg (some v)))))))) kc ks Q X) : V K M pc lv (.ref v :: .int i :: .ref a :: st) h kc ks Q X := by
  intro mc ms p e s m args below meth c R H locs cells slots ls C I
  obtain ⟨C0, T0, N0, hci, hE⟩ := has
  obtain ⟨cA, h1, h2, h3⟩ := I.1 a _ ha
  obtain ⟨r', h1', cellV, g1, g2, g3, -⟩ := I.1 v _ hv
  have hKW := C.2.2.2.2.2.2.2.2.1
  have hcls := (hKW.2.1.1 ci _ hci).2
  obtain ⟨kAr, comp, k1, k2, k3, k4⟩ := h2
  have hlt : i.toNatClampNeg < n := Nat.not_le.mp fun q => hin (Or.inr q)
  have h0 : ¬ i < 0 := fun q => hin (Or.inl q)
  obtain ⟨kC, hkC, -⟩ := hcls.2
  have hasg : s.vm.assignable (K.2.1.1 ci) comp = true := by
    rcases hE with rfl | hE
    · have hcomp : comp = K.2.1.1 ci := Option.some.inj (k3.symm.trans hcls.1)
      subst hcomp
      exact va_assign hcls
    · obtain ⟨c1, c2, e1, e2, e3⟩ := Cond.castable_spec (va_Nw.use (A := args) rfl (hKW.2.2.2.2.2.1 _ hE))
      cases Option.some.inj (e1.symm.trans hcls.1)
      cases Option.some.inj (e2.symm.trans k3)
      exact e3
  obtain ⟨kcomp, hkcomp, -⟩ := Vm.findClass_spec k3
  refine W.aast C.1 C.2.1 h3 (fun q h => by cases h) (fun h => by cases h) k1 k2 rfl hkcomp ⟨h0, by show _ < (arrV _ _ _).slots.size; rw [arrV_size]; exact hlt⟩ g1 (fun q h => by rw [g3] at h; cases h) (by rw [g2]; exact hkC) (by rw [g2]; exact hasg) rfl rfl hd fun H1 e1 z oq => ?_
  refine kk mc ms p e s m args below meth c R H1 _ cells slots ls C ⟨I.1.upd oq ⟨cA, h1, ⟨kAr, comp, k1, k2, k3, k4⟩, ?_⟩, dom_up I.2.1 ha, I.2.2.1.put z oq (I.2.1 a _ ha), I.2.2.2⟩
  show H1[a]? = some (vp_cell _ _)
  rw [e1]
  rw [vp_cell_q, vp_cell_q, arrV_store]
  congr 2
  funext q
  by_cases hq : q = i.toNatClampNeg
  · subst hq
    simp [updV, va_up, va_rf]
  · simp [updV, va_up, hq]
theorem v_cast (pc : Nat) {index a ci : Nat} {nm : String} {fs : List Value} (hd : decode M.2.1 pc = .ok (.checkcast index, 3)) (hw : Cond.classLink M.1.cls index nm ∈ gW) (hc : ∃ (T : u_T) (N : Nat), vwCl[ci]? = some (nm, T, N)) (ha : h a = some (.inr (ci, fs))) (kk : V K M (pc + 3) lv (.ref a :: st) h kc ks Q X) : V K M pc lv (.ref a :: st) h kc ks Q X := by
  intro mc ms p e s m args below meth c R H locs cells slots ls C I
  obtain ⟨T, N, hci⟩ := hc
  have hKW := C.2.2.2.2.2.2.2.2.1
  have hcls := (hKW.2.1.1 ci _ hci).2
  obtain ⟨r', h1', cellV, g1, g2, g3, -⟩ := I.1 a _ ha
  exact va_castS C.1 C.2.1 C.2.2.2.2.1 (C.2.2.2.2.2.2.2.1 _ hw) hcls ⟨cellV, g1, by rw [g3]; rfl, by rw [g2]; exact hcls.1⟩ hd (kk mc ms p e s m args below meth c R H locs cells slots ls C I)
/-- a row of references is made -/
theorem v_newq (pc : Nat) {index : Nat} {E : String} {n : Int32} {N : Nat} (hd : decode M.2.1 pc = .ok (.anewarray index, 3)) (hw : Cond.classLink M.1.cls index E ∈ gW) (hE : E = "FontShelf$Choice" ∨ E = "FontShelf$Glyph" ∨ E = "java/lang/Object") (hn : ¬ n < 0) (hN : n.toNatClampNeg = N) (hb : N * 4 ≤ 536870912)
    (kk : ∀ a : Nat, h a = none → kA K a → V K M (pc + 3) lv (.ref a :: st) (hup h a (.inl (.object E, N, .inr (.inr (.inr (.inr (fun _ => none))))))) kc ks Q X) : V K M pc lv (.int n :: st) h (kc + 1) (ks + N) Q X := by
  subst hN
  intro mc ms p e s m args below meth c R H locs cells slots ls C I
  have hB := C.2.2.2.2.2.2.2.2.2.1
  have hKW := C.2.2.2.2.2.2.2.2.1
  have hover : va_AO E s := by
    rcases hE with rfl | rfl | rfl
    · exact hKW.2.2.2.2.2.2.2.2.2.2.1
    · exact hKW.2.2.2.2.2.2.2.2.2.2.2.1
    · exact hKW.2.2.2.2.2.2.2.2.2.2.2.2.1
  obtain ⟨-, -, r3, r4⟩ := C.2.2.2.2.2.2.2.2.2.2.1
  obtain ⟨i1, i2, i3, i4, i5, i6⟩ := I
  refine W.anew C.1 C.2.1 C.2.2.2.2.1 (C.2.2.2.2.2.2.2.1 _ hw) (va_AO.use hover) rfl hd rfl hn hb (by omega) (by omega) fun cA kAr comp f1 f2 f3 f4 => ?_
  generalize hH1 : H.push ({ cls := cA, slots := Array.replicate n.toNatClampNeg .null, vm := .none } : Cell) = H1
  have z1 : H1.size = H.size + 1 := by rw [← hH1, Array.size_push]
  have e1 : H1[H.size]? = some (arrV cA n.toNatClampNeg (fun _ => .null)) := by rw [← hH1, Array.getElem?_push_size, ← arrV_new]
  have o1 : ∀ q : Nat, q < H.size → H1[q]? = H[q]? := fun q hq => by rw [← hH1, Array.getElem?_push, if_neg (Nat.ne_of_lt hq)]
  have hAr : ArrOfT s cA (.object E) := fun N z => ⟨(fun k h => by cases h), kAr, f2, comp, f3⟩
  have hkA : kA K H.size := hB.base _ i3.1
  refine kk H.size i1.free hkA mc ms p e s m args below meth c R H1 locs (cells + 1) (slots + n.toNatClampNeg) ls C ⟨?_, fun q e' hq => ?_, ⟨Nat.le_trans i3.1 (by omega), fun x h1 h2 => (o1 x (Nat.lt_of_lt_of_le h1 i3.1)).trans (i3.2.1 x h1 h2), i3.2.2⟩, i4, by omega, by omega⟩
  · intro q e' hq
    by_cases hqa : q = H.size
    · subst hqa
      rw [hup_s] at hq
      cases hq
      exact ⟨cA, hAr, ⟨kAr, comp, f2, f3, f4, f1⟩, by rw [vp_cell_q]; exact e1⟩
    · rw [hup_n hqa] at hq
      exact (i1 q e' hq).kept (o1 q (i1 q e' hq).lt)
  · by_cases hqa : q = H.size
    · rw [hqa]; exact hkA
    · rw [hup_n hqa] at hq; exact i2 q e' hq
end MR

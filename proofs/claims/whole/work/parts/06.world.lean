/-! ===== THE WORLD that a run keeps: the launch, the classes' numbers, the heap at the law's start ===== -/
def gW : List Cond := lw_tbl.filter goodWord
theorem gW_in {w : Cond} (h : w ∈ lw_tbl) (hg : goodWord w = true) : w ∈ gW := List.mem_filter.mpr ⟨h, hg⟩
abbrev KT : Type := Launch × va_G × Heap × (Nat → Nat)
def kA (K : KT) : Nat → Prop := fun q => K.2.2.1.size ≤ q
def lstV (j : Nat) : Int32 := [0, 0, 1, 1, 0, -7, 0].getD j 0
def grtV (j : Nat) : Int32 := [2047, 1, 57600, 99999, 32767, 7, 65535].getD j 0
def fstV (j : Nat) : Int32 := [277, 0, 1000, 1200, 0, 0, 3].getD j 0
def nwW : List Cond := [.methodLinkNest RX3 30 yX0_init "FontShelf", .methodLinkNest RX2 51 yX3_within "FontShelf", .methodLinkNest RX1 35 yX3_within "FontShelf"]
def ncW : List (String × String) := [("[I", "java/lang/Cloneable"), ("FontShelf$Font", "FontShelf$Font"), ("FontShelf$Font", "java/lang/Object"), ("java/lang/IllegalStateException", "java/lang/IllegalStateException"), ("java/lang/IllegalArgumentException", "java/lang/IllegalArgumentException"), ("java/lang/UnsupportedOperationException", "java/lang/UnsupportedOperationException"), ("java/lang/IndexOutOfBoundsException", "java/lang/IndexOutOfBoundsException")]
def naW : List (String × String) := [("java/lang/IllegalArgumentException", "java/lang/IllegalStateException"), ("java/lang/UnsupportedOperationException", "java/lang/IllegalStateException"), ("java/lang/IllegalStateException", "java/lang/IllegalArgumentException")]
def dcM : List MethodName := [⟨"java/lang/RuntimeException", "<init>", "()V"⟩, ⟨"java/lang/RuntimeException", "<init>", "(Ljava/lang/String;)V"⟩, ⟨"java/lang/Exception", "<init>", "()V"⟩, ⟨"java/lang/Exception", "<init>", "(Ljava/lang/String;)V"⟩, ⟨"java/lang/Throwable", "<init>", "()V"⟩, ⟨"java/lang/Throwable", "<init>", "(Ljava/lang/String;)V"⟩]
/-- the statics, at the law's start -/
def KS (K : KT) (U : State) : Prop :=
  va_Z "FontShelf" "LEAST_VALUE" "[I" (.ref (K.2.2.2 0)) (kA K) U K.2.2.1 ∧ va_T .int (K.2.2.2 0) 7 (fun j => .int (lstV j)) (kA K) U K.2.2.1 ∧
  va_Z "FontShelf" "GREATEST_VALUE" "[I" (.ref (K.2.2.2 1)) (kA K) U K.2.2.1 ∧ va_T .int (K.2.2.2 1) 7 (fun j => .int (grtV j)) (kA K) U K.2.2.1 ∧
  va_Z "FontShelf" "FIRST_DRAFT" "[I" (.ref (K.2.2.2 2)) (kA K) U K.2.2.1 ∧ va_T .int (K.2.2.2 2) 7 (fun j => .int (fstV j)) (kA K) U K.2.2.1 ∧
  va_Z "java/util/ArrayList" "DEFAULTCAPACITY_EMPTY_ELEMENTDATA" "[Ljava/lang/Object;" (.ref (K.2.2.2 3)) (kA K) U K.2.2.1 ∧ va_T (.object "java/lang/Object") (K.2.2.2 3) 0 (fun _ => .null) (kA K) U K.2.2.1 ∧
  vx_Zq Bundle.tN "UNASSIGNED_STACK" Bundle.steD (kA K) U K.2.2.1 ∧ vx_Zq Bundle.tN "SUPPRESSED_SENTINEL" Bundle.listD (kA K) U K.2.2.1
theorem KS.moved {K : KT} {u U : State} (hvm : u.vm.Alike U.vm) (h : KS K u) : KS K U := by
  obtain ⟨a1, b1, a2, b2, a3, b3, a4, b4, h5, h6⟩ := h
  exact ⟨a1.moved hvm, b1.moved hvm, a2.moved hvm, b2.moved hvm, a3.moved hvm, b3.moved hvm, a4.moved hvm, b4.moved hvm, h5.moved hvm, h6.moved hvm⟩
/-- the tables' facts that no reader of steady words carries -/
def KW (K : KT) (U : State) : Prop :=
  K.1.stackTraces = false ∧ va_K K.2.1 vwCl [] U ∧ KS K U ∧ (∀ w ∈ nwW, va_Nw w U) ∧ va_Nw (.fieldLinkNest RX0 9 "FontShelf" "FIRST_DRAFT" "[I" "FontShelf") U ∧ (∀ q ∈ ncW, va_Nw (.castable q.1 q.2) U) ∧ (∀ q ∈ naW, va_Nc q.1 q.2 U) ∧
  (∀ (i : Nat) (tx : String), Cond.stringRef RX3 i tx ∈ tables_1 → ∃ sa : Nat, vk_R RX3 i tx sa U) ∧ (∃ mi : Nat, va_Mi "[Ljava/lang/Object;" mi U) ∧ va_Dc U ∧ va_AO "FontShelf$Choice" U ∧ va_AO "FontShelf$Glyph" U ∧ va_AO "java/lang/Object" U ∧ ∀ y ∈ dcM, va_Nw (.declares y) U
theorem KW.warm {K : KT} {s U : State} (hW : s.WarmedH U.vm) (h : KW K s) : KW K U := by
  obtain ⟨h0, h1, h2, h3, h4, h5, h6, h7, ⟨mi, h8⟩, h9, h10, h11, h12, h13⟩ := h
  refine ⟨h0, va_K.moved hW.alike h1, h2.moved hW.alike, fun w hw => ?_, va_Nw.warmF hW h4, fun q hq => va_Nw.warmC hW (h5 q hq), fun q hq => (h6 q hq).moved hW.alike, fun i tx hm => ?_, ⟨mi, h8.moved hW.alike⟩, h9.moved hW.alike, h10.moved hW.alike, h11.moved hW.alike, h12.moved hW.alike, fun y hy => va_Nw.warmD hW (h13 y hy)⟩
  · have hz := h3 w hw
    simp only [nwW, List.mem_cons, List.not_mem_nil, or_false] at hw
    rcases hw with rfl | rfl | rfl <;> exact va_Nw.warmM hW hz
  · obtain ⟨sa, hs⟩ := h7 i tx hm
    exact ⟨sa, hs.warm hW⟩
def baseOk (K : KT) (H : Heap) : Prop := K.2.2.1.size ≤ H.size ∧ ∀ q : Nat, q < K.2.2.1.size → H[q]? = K.2.2.1[q]?
/-! ===== A METHOD: name, code, locals, what it gives back, its level, its table of handlers ===== -/
abbrev MT : Type := MethodName × ByteArray × Nat × Option FieldType × Nat × List (Nat × Nat × Nat × Nat)
abbrev QR : Type := Option Value → AH → Prop
abbrev QX : Type := String → AH → Prop
def noX : QX := fun _ _ => False
def domOk (K : KT) (h : AH) : Prop := ∀ (a : Nat) (e : AE), h a = some e → kA K a
def pC (K : KT) (As : List Value) (h : AH) : Array Value → State → Prop := va_Pc As (fun U => hold K.2.1 U h U.heap ∧ domOk K h ∧ baseOk K U.heap ∧ KW K U)
def qR (K : KT) (Q : QR) : Array Value → State → Outcome → State → Prop := fun _ st o t => ∃ (r : Option Value) (h' : AH), o = .returned r ∧ Q r h' ∧ hold K.2.1 t h' t.heap ∧ domOk K h' ∧ va_F (kA K) st t
def qX (K : KT) (Q : QX) : String → State → State → Prop := fun E st t => ∃ h' : AH, Q E h' ∧ hold K.2.1 t h' t.heap ∧ domOk K h' ∧ va_F (kA K) st t
def rmM (M : MT) (kc ks : Nat) : Room := { frames := M.2.2.2.2.1, cells := kc, slots := ks, locals := 38 * M.2.2.2.2.1 }
def wsM (M : MT) : List Cond := Cond.code M.1 M.2.1 M.2.2.1 M.2.2.2.1 :: gW
/-- THE CONTRACT: called with As over h, it returns with Q or throws with X; at most kc cells of ks places are new -/
def Ct (K : KT) (M : MT) (kc ks : Nat) (As : List Value) (h : AH) (Q : QR) (X : QX) : Prop :=
  vx_Met K.1 M.1 (wsM M) (rmM M kc ks) (pC K As h) (qR K Q) (qX K X) kc ks (kA K)
/-- what stays through a body -/
def VC (K : KT) (M : MT) (mc ms : Nat) (p : Program) (s : State) (m : MethodId) (args : Array Value) (meth : Method) (c : Code) (R : Room) : Prop :=
  p.tables.exec = Jvm.exec ∧ c.code = M.2.1 ∧ meth.sig.returnType = M.2.2.2.1 ∧ c.maxLocals = M.2.2.1 ∧ s.vm.findClass M.1.cls = some m.cls ∧ meth.locks = false ∧ meth.name = M.1.name ∧ (∀ w ∈ gW, w.before args s = true) ∧ KW K s ∧ baseOk K s.heap ∧
  (M.2.2.2.2.1 ≤ R.frames ∧ 38 * M.2.2.2.2.1 ≤ R.locals ∧ mc ≤ R.cells ∧ ms ≤ R.slots) ∧ c.exceptionTable.toList = tableOf M.2.2.2.2.2
/-- what holds at a point of it -/
def VI (K : KT) (M : MT) (mc ms : Nat) (s : State) (lv : List (Option Value)) (h : AH) (kc ks : Nat) (H : Heap) (locs : List Loc) (cells slots : Nat) (ls : Array Slot) : Prop :=
  hold K.2.1 s h H ∧ domOk K h ∧ va_S (kA K) s.heap H locs ∧ lvh ls M.2.2.1 lv ∧ cells + kc ≤ mc ∧ slots + ks ≤ ms
/-- THE JUDGEMENT: from the program counter pc, with the locals lv, the operand stack st, the heap h, kc cells and ks places still free, the body comes to its end with Q or X -/
def V (K : KT) (M : MT) (pc : Nat) (lv : List (Option Value)) (st : List Value) (h : AH) (kc ks : Nat) (Q : QR) (X : QX) : Prop :=
  ∀ (mc ms : Nat) (p : Program) (e : Env) (s : State) (m : MethodId) (args : Array Value) (below : List Frame) (meth : Method) (c : Code) (R : Room) (H : Heap) (locs : List Loc) (cells slots : Nat) (ls : Array Slot),
    VC K M mc ms p s m args meth c R → VI K M mc ms s lv h kc ks H locs cells slots ls →
    W p K.1 e R s m args below meth c H locs cells slots (vx_MQ below (qR K Q) (qX K X) args s mc ms (kA K)) (F0 m pc ls st)
theorem baseOk.base {K : KT} {s : State} (h : baseOk K s.heap) : ∀ q : Nat, s.heap.size ≤ q → kA K q := fun _ hq => Nat.le_trans h.1 hq
theorem KW.lstZ {K : KT} {s : State} (hb : baseOk K s.heap) {C n d : String} {v : Value} (h : va_Z C n d v (kA K) s K.2.2.1) : va_Z C n d v (kA K) s s.heap := h.kept (fun a ha _ => hb.2 a ha)
theorem KW.lstT {K : KT} {s : State} (hb : baseOk K s.heap) {ty : FieldType} {t N : Nat} {f : Nat → Value} (h : va_T ty t N f (kA K) s K.2.2.1) : va_T ty t N f (kA K) s s.heap := h.kept (fun a ha _ => hb.2 a ha)
/-- a plain method's contract out of its body -/
theorem ct_of {K : KT} {M : MT} {kc ks : Nat} {As : List Value} {h : AH} {Q : QR} {X : QX} {lv : List (Option Value)} (hy : plainName M.1.cls = true) (hh : M.2.2.2.2.2 = []) (hs : (lg_sl As).length ≤ M.2.2.1)
    (hl : enl As ++ List.replicate (M.2.2.1 - (enl As).length) none = lv) (k : V K M 0 lv [] h kc ks Q X) : Ct K M kc ks As h Q X := by
  subst hl
  refine vx_ofW (cc := M.2.1) (maxL := M.2.2.1) (ret := M.2.2.2.1) hy rfl ?_
  intro p e s m args below meth c s₁ B hml hex hv
  obtain ⟨rfl, hP, hD, hB, hK⟩ := hv
  have hts := atoms_spec (ws := wsM M) B.pre
  have hl := lvh_entry As hs
  rw [lg_entry_eq]
  refine k kc ks p e s m As.toArray below meth c _ s.heap [] 0 0 _ ⟨B.exec, B.bytes, B.returns, hml, findClass_of_methodNamed B.named, B.notSynchronized, (name_of_methodNamed B.named B.method).1, fun w hw => hts w (List.mem_cons_of_mem _ hw), hK, hB, ⟨Nat.le_refl _, Nat.le_refl _, Nat.le_refl _, Nat.le_refl _⟩, ?_⟩ ⟨hP, hD, va_S.rf, hl, by omega, by omega⟩
  rw [hh]
  cases hq : c.exceptionTable.toList with
  | nil => rfl
  | cons a r => exact (hex a (by rw [hq]; exact List.mem_cons_self)).elim
theorem Ct.mono {K : KT} {M : MT} {kc ks : Nat} {As : List Value} {h : AH} {Q Q' : QR} {X X' : QX} (hc : Ct K M kc ks As h Q X) (hq : ∀ r h', Q r h' → Q' r h') (hx : ∀ E h', X E h' → X' E h') : Ct K M kc ks As h Q' X' := by
  intro p e ha hcs hk s m args below hf happ hP hK
  obtain ⟨n, o, h1, h2, h3, h4⟩ := hc p e ha hcs hk s m args below hf happ hP hK
  refine ⟨n, o, h1, h2, h3, ?_⟩
  rcases h4 with ⟨⟨r, h', e1, e2, e3⟩, h5⟩ | ⟨q, e1, E, ce, L, ⟨h', e2, e3⟩, h6⟩
  · exact Or.inl ⟨⟨r, h', e1, hq r h' e2, e3⟩, h5⟩
  · exact Or.inr ⟨q, e1, E, ce, L, ⟨h', hx E h' e2, e3⟩, h6⟩
theorem pC.blind {K : KT} {As : List Value} {h : AH} : FrameBlind (pC K As h) := by
  intro a U g mk q
  obtain ⟨q0, qP, qD, qB, qK⟩ := q
  exact ⟨q0, hold.moved (u := U) (U := U.calling g mk a) (Vm.Alike.refl U.vm) qP, qD, qB, KW.warm (s := U) (U := U.calling g mk a) (State.WarmedH.refl U) qK⟩
theorem V.mono {K : KT} {M : MT} {pc : Nat} {lv : List (Option Value)} {st : List Value} {h : AH} {kc ks : Nat} {Q Q' : QR} {X X' : QX} (k : V K M pc lv st h kc ks Q X) (hq : ∀ r h', Q r h' → Q' r h') (hx : ∀ E h', X E h' → X' E h') : V K M pc lv st h kc ks Q' X' := by
  intro mc ms p e s m args below meth c R H locs cells slots ls C I T hT Y
  obtain ⟨t, a1, o, b1, b2, b3⟩ := k mc ms p e s m args below meth c R H locs cells slots ls C I T hT Y
  refine ⟨t, a1, o, b1, b2, ?_⟩
  rcases b3 with ⟨⟨r, h', e1, e2, e3⟩, h5⟩ | ⟨q, e1, E, ce, L, ⟨h', e2, e3⟩, h6⟩
  · exact Or.inl ⟨⟨r, h', e1, hq r h' e2, e3⟩, h5⟩
  · exact Or.inr ⟨q, e1, E, ce, L, ⟨h', hx E h' e2, e3⟩, h6⟩
theorem V.less {K : KT} {M : MT} {pc : Nat} {lv : List (Option Value)} {st : List Value} {h : AH} {kc ks kc' ks' : Nat} {Q : QR} {X : QX} (k : V K M pc lv st h kc' ks' Q X) (h1 : kc' ≤ kc) (h2 : ks' ≤ ks) : V K M pc lv st h kc ks Q X := by
  intro mc ms p e s m args below meth c R H locs cells slots ls C I
  obtain ⟨i1, i2, i3, i4, i5, i6⟩ := I
  exact k mc ms p e s m args below meth c R H locs cells slots ls C ⟨i1, i2, i3, i4, by omega, by omega⟩
/-- the operand stack, the locals and the place written otherwise -/
theorem V.eq {K : KT} {M : MT} {pc pc' : Nat} {lv lv' : List (Option Value)} {st st' : List Value} {h h' : AH} {kc ks : Nat} {Q : QR} {X : QX} (k : V K M pc lv st h kc ks Q X) (e1 : pc = pc' := by rfl) (e2 : lv = lv' := by rfl) (e3 : st = st' := by rfl) (e4 : h = h' := by rfl) : V K M pc' lv' st' h' kc ks Q X := by
  subst e1; subst e2; subst e3; subst e4; exact k

/-! ===== rows that ask the tables or the heap ===== -/
/-- the class number ci, its name, its fields -/
def clOk (ci : Nat) (C : String) (T : u_T) (N : Nat) : Prop := vwCl[ci]? = some (C, T, N) ∧ ∀ w ∈ u_ws C T N, w ∈ gW
/-- a field that an instruction of 'own' names by its entry: field k of the class ci, of the type ty -/
def FL (own : String) (index ci k : Nat) (ty : FieldType) (fin : Bool) (decl : String) : Prop :=
  ∃ (C : String) (T : u_T) (N : Nat) (ty0 : Nat → FieldType) (ref : String), clOk ci C T N ∧ k < N ∧ Cond.fieldLink own index ref (T k).2.1 (T k).2.2.1 ∈ gW ∧ (ref = (T k).1 ∨ Cond.sameField ref (T k).1 (T k).2.1 (T k).2.2.1 ∈ gW) ∧
    (∀ j, j < N → parseFieldDescriptor (T j).2.2.1 = some (ty0 j)) ∧ (∀ a, a < N → ∀ b, b < N → a ≠ b → (T a).2.1 ≠ (T b).2.1) ∧ parseFieldDescriptor (T k).2.2.1 = some ty ∧ (T k).2.2.2 = fin ∧ (T k).1 = decl
section HR
variable {K : KT} {M : MT} {lv : List (Option Value)} {st : List Value} {h : AH} {kc ks : Nat} {Q : QR} {X : QX}
theorem v_getf (pc : Nat) {index ci k a : Nat} {ty : FieldType} {fin : Bool} {decl : String} {fs : List Value} {v : Value} (hd : decode M.2.1 pc = .ok (.getfield index, 3)) (hF : FL M.1.cls index ci k ty fin decl) (ha : h a = some (.inr (ci, fs))) (hv : fs[k]? = some v)
    (kk : V K M (pc + 3) lv (v :: st) h kc ks Q X) : V K M pc lv (.ref a :: st) h kc ks Q X := by
  obtain ⟨C, T, N, ty0, ref, ⟨hc, hw⟩, hk, hl, hsm, hty, hnm, hp, -, -⟩ := hF
  intro mc ms p e s m args below meth c R H locs cells slots ls C0 I
  have hts := C0.2.2.2.2.2.2.2.1
  have hP : va_P K.2.1 vwCl [(a, .inr (ci, fs))] H := fun j q hj => by
    have hj0 : j = 0 := by
      have := (List.getElem?_eq_some_iff.mp hj).1
      simpa using this
    subst hj0
    cases hj
    exact I.1 a _ ha
  refine va_get (D := K.2.1) (ci := ci) (v := v) (C := C) (T := T) (N := N) (ref := ref) C0.1 C0.2.1 hts hw C0.2.2.2.2.1 C0.2.2.2.2.2.2.2.2.1.2.1 hP 0 rfl hc k hk (hts _ hl) ?_ hv hd (kk mc ms p e s m args below meth c R H locs cells slots ls C0 I)
  intro x hx
  rcases hsm with rfl | hsm
  · exact hx
  · exact u_same (hts _ hsm) x hx
theorem hat_set {D : va_G} {U : State} {a ci : Nat} {fs : List Value} {k : Nat} {v : Value} {H1 : Heap} {C : String} {T : u_T} {N : Nat} (hc : vwCl[ci]? = some (C, T, N)) (g : t_OB a (D.1 ci) N (D.2 ci) H1 (updV (vp_V fs) k v)) (hl : k < fs.length) : hat D U a (.inr (ci, fs.set k v)) H1 :=
  ⟨_, hc, g.to (fun j _ => vp_updV_set hl v j)⟩
theorem v_putf (pc : Nat) {index ci k a : Nat} {ty : FieldType} {decl : String} {fs : List Value} {v : Value} (hd : decode M.2.1 pc = .ok (.putfield index, 3)) (hF : FL M.1.cls index ci k ty false decl) (ha : h a = some (.inr (ci, fs))) (hl : k < fs.length) (hn : narrow ty v = v) (hf : fits ty v = true)
    (kk : V K M (pc + 3) lv st (hup h a (.inr (ci, fs.set k v))) kc ks Q X) : V K M pc lv (v :: .ref a :: st) h kc ks Q X := by
  obtain ⟨C, T, N, ty0, ref, ⟨hc, hw⟩, hk, hlk, hsm, hty, hnm, hp, hfin, -⟩ := hF
  intro mc ms p e s m args below meth c R H locs cells slots ls C0 I
  have hts := C0.2.2.2.2.2.2.2.1
  have hK := C0.2.2.2.2.2.2.2.2.1.2.1
  have hap := va_apart (own := M.1.cls) hts hw ty0 hty hnm hK hc
  obtain ⟨r, h1, cell, q1, q2, q3, q4⟩ := I.1 a _ ha
  have hr : r = (C, T, N) := Option.some.inj (h1.symm.trans hc)
  subst hr
  obtain ⟨hS, hfc, kC, hkC, hkind⟩ := hK.1 ci _ hc
  obtain ⟨cf, kf, fi, f, hi, hsl⟩ := hS k hk
  have hlay := hts _ (hw _ (u_in_lay hk))
  unfold u_lay at hlay
  rw [if_neg (by rw [hfin]; decide)] at hlay
  have hst := (u_facts hfc hkC (u_lays hts hw hk) hi).1
  have h6 := u_store hfc hkC hkind hlay hi hp hn hf
  have hi' : s.fieldFound? ref (T k).2.1 (T k).2.2.1 = some (cf, kf, fi, f) := by
    rcases hsm with rfl | hsm
    · exact hi
    · exact u_same (hts _ hsm) _ hi
  refine W.putK C0.1 C0.2.1 (f := f) ⟨C0.2.2.2.2.1, hts _ hlk, ⟨_, _, _, hi'⟩, hst⟩ (by rw [q2]; exact h6) q1 q3 (by rw [hsl]; exact k2_hasslot (q4 k hk)) rfl rfl hd fun H' e1 e2 e3 => ?_
  rw [hsl] at e1 ⊢
  refine kk mc ms p e s m args below meth c R H' _ cells slots ls C0 ⟨I.1.upd e3 (hat_set hc ⟨_, e1, q2, q3, t_set q4 hap hk v⟩ hl), fun q e' hq => ?_, I.2.2.1.put e2 e3 (I.2.1 a _ ha), I.2.2.2⟩
  by_cases hqa : q = a
  · rw [hqa]; exact I.2.1 a _ ha
  · rw [hup_n hqa] at hq; exact I.2.1 q e' hq
theorem v_putF (pc : Nat) {index ci k a : Nat} {ty : FieldType} {fs : List Value} {v : Value} (hd : decode M.2.1 pc = .ok (.putfield index, 3)) (hF : FL M.1.cls index ci k ty true M.1.cls) (hin : M.1.name = "<init>") (ha : h a = some (.inr (ci, fs))) (hl : k < fs.length) (hn : narrow ty v = v) (hf : fits ty v = true)
    (kk : V K M (pc + 3) lv st (hup h a (.inr (ci, fs.set k v))) kc ks Q X) : V K M pc lv (v :: .ref a :: st) h kc ks Q X := by
  obtain ⟨C, T, N, ty0, ref, ⟨hc, hw⟩, hk, hlk, hsm, hty, hnm, hp, hfin, hdecl⟩ := hF
  intro mc ms p e s m args below meth c R H locs cells slots ls C0 I
  have hts := C0.2.2.2.2.2.2.2.1
  have hown := C0.2.2.2.2.1
  have hK := C0.2.2.2.2.2.2.2.2.1.2.1
  have hap := va_apart (own := M.1.cls) hts hw ty0 hty hnm hK hc
  obtain ⟨r, h1, cell, q1, q2, q3, q4⟩ := I.1 a _ ha
  have hr : r = (C, T, N) := Option.some.inj (h1.symm.trans hc)
  subst hr
  obtain ⟨hS, hfc, kC, hkC, hkind⟩ := hK.1 ci _ hc
  obtain ⟨cf, kf, fi, f, hi, hsl⟩ := hS k hk
  have hlay := hts _ (hw _ (u_in_lay hk))
  unfold u_lay at hlay
  rw [if_pos hfin] at hlay
  have hst := (u_facts hfc hkC (u_lays hts hw hk) hi).1
  have hcf : m.cls = cf := by
    obtain ⟨_, _, c', _, _, _, -, -, hf', -, -, -, hown2, -⟩ := Cond.laysFinal_spec hlay
    have e1 : c' = cf := by have := hi.symm.trans hf'; simp at this; exact this.1.symm
    rw [hdecl] at hown2
    rw [← e1]; exact Option.some.inj (hown.symm.trans hown2)
  have h6 := u_fits hfc hkC hkind (Or.inr hlay) hi hp hn hf
  have hi' : s.fieldFound? ref (T k).2.1 (T k).2.2.1 = some (cf, kf, fi, f) := by
    rcases hsm with rfl | hsm
    · exact hi
    · exact u_same (hts _ hsm) _ hi
  refine W.putFinK C0.1 C0.2.1 hown (hts _ hlk) hi' hst hcf (by rw [C0.2.2.2.2.2.2.1]; exact hin) (by rw [q2]; exact h6) q1 q3 (by rw [hsl]; exact k2_hasslot (q4 k hk)) rfl rfl hd fun H' e1 e2 e3 => ?_
  rw [hsl] at e1 ⊢
  refine kk mc ms p e s m args below meth c R H' _ cells slots ls C0 ⟨I.1.upd e3 (hat_set hc ⟨_, e1, q2, q3, t_set q4 hap hk v⟩ hl), fun q e' hq => ?_, I.2.2.1.put e2 e3 (I.2.1 a _ ha), I.2.2.2⟩
  by_cases hqa : q = a
  · rw [hqa]; exact I.2.1 a _ ha
  · rw [hup_n hqa] at hq; exact I.2.1 q e' hq
/-- a class that an instruction of 'own' makes -/
def NL (own : String) (index ci N : Nat) (fs : List Value) : Prop :=
  ∃ (C : String) (T : u_T) (ty0 : Nat → FieldType), clOk ci C T N ∧ Cond.classLink own index C ∈ gW ∧ Cond.instantiable C N ∈ gW ∧ Cond.initialized C ∈ gW ∧ (∀ j, j < N → parseFieldDescriptor (T j).2.2.1 = some (ty0 j)) ∧ ∀ j, j < N → defaultValue (ty0 j) = vp_V fs j
theorem v_new (pc : Nat) {index ci N : Nat} {fs : List Value} (hd : decode M.2.1 pc = .ok (.new index, 3)) (hN : NL M.1.cls index ci N fs)
    (kk : ∀ a : Nat, h a = none → kA K a → V K M (pc + 3) lv (.ref a :: st) (hup h a (.inr (ci, fs))) kc ks Q X) : V K M pc lv st h (kc + 1) (ks + N) Q X := by
  obtain ⟨C, T, ty0, ⟨hc, hw⟩, hl, hi, hini, hty, hfs⟩ := hN
  intro mc ms p e s m args below meth c R H locs cells slots ls C0 I
  have hts := C0.2.2.2.2.2.2.2.1
  have hK := C0.2.2.2.2.2.2.2.2.1.2.1
  have hB := C0.2.2.2.2.2.2.2.2.2.1
  obtain ⟨-, -, r3, r4⟩ := C0.2.2.2.2.2.2.2.2.2.2.1
  obtain ⟨i1, i2, i3, i4, i5, i6⟩ := I
  have hKn := hK.1 ci _ hc
  refine W.newcK C0.1 C0.2.1 C0.2.2.2.2.1 (hts _ hl) (hts _ hi) (hts _ hini) rfl hd (by omega) (by omega) hKn.2.1 rfl fun H1 kC hkC e1 z1 o1 => ?_
  have hkA : kA K H.size := hB.base _ i3.1
  refine kk H.size i1.free hkA mc ms p e s m args below meth c R H1 locs (cells + 1) (slots + N) ls C0 ⟨?_, fun q e' hq => ?_, ⟨Nat.le_trans i3.1 (by omega), fun x h1 h2 => (o1 x (Nat.lt_of_lt_of_le h1 i3.1)).trans (i3.2.1 x h1 h2), i3.2.2⟩, i4, by omega, by omega⟩
  · intro q e' hq
    by_cases hqa : q = H.size
    · subst hqa
      rw [hup_s] at hq
      cases hq
      exact ⟨_, hc, (u_born ty0 hts hw hKn hkC e1 hty).to hfs⟩
    · rw [hup_n hqa] at hq
      exact (i1 q e' hq).kept (o1 q (i1 q e' hq).lt)
  · by_cases hqa : q = H.size
    · rw [hqa]; exact hkA
    · rw [hup_n hqa] at hq; exact i2 q e' hq
/-- a row of numbers is made -/
theorem v_newa (pc : Nat) {atype : ArrayType} {ty : FieldType} {n : Int32} {N : Nat} {x : vp_A} (hd : decode M.2.1 pc = .ok (.newarray atype, 2)) (hw : Cond.arrayClass ty ∈ gW) (hty : newarray.typeOf atype = ty) (hx : ∀ cA : ClassId, vp_cell cA x = arrV cA N (fun _ => defaultValue ty)) (hn : ¬ n < 0) (hN : n.toNatClampNeg = N) (hb : N * componentBytes ty ≤ 536870912)
    (kk : ∀ a : Nat, h a = none → kA K a → V K M (pc + 2) lv (.ref a :: st) (hup h a (.inl (ty, x))) kc ks Q X) : V K M pc lv (.int n :: st) h (kc + 1) (ks + N) Q X := by
  subst hty
  intro mc ms p e s m args below meth c R H locs cells slots ls C0 I
  have hts := C0.2.2.2.2.2.2.2.1
  have hB := C0.2.2.2.2.2.2.2.2.2.1
  obtain ⟨-, -, r3, r4⟩ := C0.2.2.2.2.2.2.2.2.2.2.1
  obtain ⟨i1, i2, i3, i4, i5, i6⟩ := I
  refine va_newaK C0.1 C0.2.1 (hts _ hw) rfl hd rfl hn hN hb (by omega) (by omega) rfl fun H1 cA e1 z1 o1 hAr hNm => ?_
  have hkA : kA K H.size := hB.base _ i3.1
  refine kk H.size i1.free hkA mc ms p e s m args below meth c R H1 locs (cells + 1) (slots + N) ls C0 ⟨?_, fun q e' hq => ?_, ⟨Nat.le_trans i3.1 (by omega), fun x h1 h2 => (o1 x (Nat.lt_of_lt_of_le h1 i3.1)).trans (i3.2.1 x h1 h2), i3.2.2⟩, i4, by omega, by omega⟩
  · intro q e' hq
    by_cases hqa : q = H.size
    · subst hqa
      rw [hup_s] at hq
      cases hq
      exact ⟨cA, hAr, by cases atype <;> exact hNm, by rw [hx]; exact e1⟩
    · rw [hup_n hqa] at hq
      exact (i1 q e' hq).kept (o1 q (i1 q e' hq).lt)
  · by_cases hqa : q = H.size
    · rw [hqa]; exact hkA
    · rw [hup_n hqa] at hq; exact i2 q e' hq
theorem dom_up {K : KT} {h : AH} {a : Nat} {e0 e : AE} (hD : domOk K h) (ha : h a = some e0) : domOk K (hup h a e) := fun q e' hq => by
  by_cases hqa : q = a
  · rw [hqa]; exact hD a _ ha
  · rw [hup_n hqa] at hq; exact hD q e' hq
theorem v_iald (pc : Nat) {a n : Nat} {f : Nat → Int32} {i : Int32} (hd : decode M.2.1 pc = .ok (.iaload, 1)) (ha : h a = some (.inl (.int, n, .inl f))) (hin : vp_in i n)
    (kk : V K M (pc + 1) lv (.int (f i.toNatClampNeg) :: st) h kc ks Q X) : V K M pc lv (.int i :: .ref a :: st) h kc ks Q X := by
  intro mc ms p e s m args below meth c R H locs cells slots ls C0 I
  obtain ⟨cA, h1, h2, h3⟩ := I.1 a _ ha
  have hlt : i.toNatClampNeg < n := Nat.not_le.mp fun q => hin (Or.inr q)
  exact W.iald C0.1 C0.2.1 h3 (h1 n _) (fun q => by cases q) (by show ¬ (i < 0 ∨ (arrV _ _ _).slots.size ≤ _); rw [arrV_size]; exact hin) (by show (arrV _ _ _).slots[_]? = _; rw [arrV_read _ _ hlt]) rfl rfl hd (kk mc ms p e s m args below meth c R H locs cells slots ls C0 I)
theorem v_bald (pc : Nat) {a n : Nat} {f : Nat → Int32} {i : Int32} (hd : decode M.2.1 pc = .ok (.baload, 1)) (ha : h a = some (.inl (.byte, n, .inl f))) (hin : vp_in i n)
    (kk : V K M (pc + 1) lv (.int (f i.toNatClampNeg) :: st) h kc ks Q X) : V K M pc lv (.int i :: .ref a :: st) h kc ks Q X := by
  intro mc ms p e s m args below meth c R H locs cells slots ls C0 I
  obtain ⟨cA, h1, h2, h3⟩ := I.1 a _ ha
  have hlt : i.toNatClampNeg < n := Nat.not_le.mp fun q => hin (Or.inr q)
  exact W.bald C0.1 C0.2.1 h3 (h1 n _) (fun q => by cases q) (by show ¬ (i < 0 ∨ (arrV _ _ _).slots.size ≤ _); rw [arrV_size]; exact hin) (by show (arrV _ _ _).slots[_]? = _; rw [arrV_read _ _ hlt]) rfl rfl hd (kk mc ms p e s m args below meth c R H locs cells slots ls C0 I)
theorem v_zald (pc : Nat) {a n : Nat} {f : Nat → Int32} {i : Int32} (hd : decode M.2.1 pc = .ok (.baload, 1)) (ha : h a = some (.inl (.boolean, n, .inl f))) (hin : vp_in i n)
    (kk : V K M (pc + 1) lv (.int (f i.toNatClampNeg) :: st) h kc ks Q X) : V K M pc lv (.int i :: .ref a :: st) h kc ks Q X := by
  intro mc ms p e s m args below meth c R H locs cells slots ls C0 I
  obtain ⟨cA, h1, h2, h3⟩ := I.1 a _ ha
  have hlt : i.toNatClampNeg < n := Nat.not_le.mp fun q => hin (Or.inr q)
  exact W.zald C0.1 C0.2.1 h3 (h1 n _) (fun q => by cases q) (by show ¬ (i < 0 ∨ (arrV _ _ _).slots.size ≤ _); rw [arrV_size]; exact hin) (by show (arrV _ _ _).slots[_]? = _; rw [arrV_read _ _ hlt]) rfl rfl hd (kk mc ms p e s m args below meth c R H locs cells slots ls C0 I)
theorem v_lald (pc : Nat) {a n : Nat} {f : Nat → Int64} {i : Int32} (hd : decode M.2.1 pc = .ok (.laload, 1)) (ha : h a = some (.inl (.long, n, .inr (.inl f)))) (hin : vp_in i n)
    (kk : V K M (pc + 1) lv (.long (f i.toNatClampNeg) :: st) h kc ks Q X) : V K M pc lv (.int i :: .ref a :: st) h kc ks Q X := by
  intro mc ms p e s m args below meth c R H locs cells slots ls C0 I
  obtain ⟨cA, h1, h2, h3⟩ := I.1 a _ ha
  have hlt : i.toNatClampNeg < n := Nat.not_le.mp fun q => hin (Or.inr q)
  exact W.lald C0.1 C0.2.1 h3 (h1 n _) (fun q => by cases q) (by show ¬ (i < 0 ∨ (arrV _ _ _).slots.size ≤ _); rw [arrV_size]; exact hin) (by show (arrV _ _ _).slots[_]? = _; rw [arrV_read _ _ hlt]) rfl rfl hd (kk mc ms p e s m args below meth c R H locs cells slots ls C0 I)
theorem v_iast (pc : Nat) {a n : Nat} {f : Nat → Int32} {i : Int32} {x : Int32} (hd : decode M.2.1 pc = .ok (.iastore, 1)) (ha : h a = some (.inl (.int, n, .inl (f)))) (hin : vp_in i n)
    (kk : V K M (pc + 1) lv st (hup h a (.inl (.int, n, .inl ((upd f i.toNatClampNeg x))))) kc ks Q X) : V K M pc lv (.int x :: .int i :: .ref a :: st) h kc ks Q X := by
  intro mc ms p e s m args below meth c R H locs cells slots ls C0 I
  obtain ⟨cA, h1, h2, h3⟩ := I.1 a _ ha
  refine W.iast C0.1 C0.2.1 h3 (h1 n _) (fun q => by cases q) (by show ¬ (i < 0 ∨ (arrV _ _ _).slots.size ≤ _); rw [arrV_size]; exact hin) rfl rfl hd fun H1 e1 z oq => ?_
  refine kk mc ms p e s m args below meth c R H1 _ cells slots ls C0 ⟨I.1.upd oq ⟨cA, h1, h2, ?_⟩, dom_up I.2.1 ha, I.2.2.1.put z oq (I.2.1 a _ ha), I.2.2.2⟩
  show H1[a]? = some (vp_cell _ _)
  rw [e1]
  rw [vp_cell_i, vp_cell_i, arrV_store]
  congr 2
  funext q
  by_cases hq : q = i.toNatClampNeg
  · subst hq
    simp [updV, upd, vp_updL, vp_nar_byte, vp_nar, narrow]
  · simp [updV, upd, vp_updL, hq]
theorem v_bast (pc : Nat) {a n : Nat} {f : Nat → Int32} {i : Int32} {x : Int32} (hd : decode M.2.1 pc = .ok (.bastore, 1)) (ha : h a = some (.inl (.byte, n, .inl (f)))) (hin : vp_in i n)
    (kk : V K M (pc + 1) lv st (hup h a (.inl (.byte, n, .inl ((upd f i.toNatClampNeg (vp_nar .byte x)))))) kc ks Q X) : V K M pc lv (.int x :: .int i :: .ref a :: st) h kc ks Q X := by
  intro mc ms p e s m args below meth c R H locs cells slots ls C0 I
  obtain ⟨cA, h1, h2, h3⟩ := I.1 a _ ha
  refine W.bast C0.1 C0.2.1 h3 (h1 n _) (fun q => by cases q) (by show ¬ (i < 0 ∨ (arrV _ _ _).slots.size ≤ _); rw [arrV_size]; exact hin) rfl rfl hd fun H1 e1 z oq => ?_
  refine kk mc ms p e s m args below meth c R H1 _ cells slots ls C0 ⟨I.1.upd oq ⟨cA, h1, h2, ?_⟩, dom_up I.2.1 ha, I.2.2.1.put z oq (I.2.1 a _ ha), I.2.2.2⟩
  show H1[a]? = some (vp_cell _ _)
  rw [e1]
  rw [vp_cell_i, vp_cell_i, arrV_store]
  congr 2
  funext q
  by_cases hq : q = i.toNatClampNeg
  · subst hq
    simp [updV, upd, vp_updL, vp_nar_byte, vp_nar, narrow]
  · simp [updV, upd, vp_updL, hq]
theorem v_zast (pc : Nat) {a n : Nat} {f : Nat → Int32} {i : Int32} {x : Int32} (hd : decode M.2.1 pc = .ok (.bastore, 1)) (ha : h a = some (.inl (.boolean, n, .inl (f)))) (hin : vp_in i n)
    (kk : V K M (pc + 1) lv st (hup h a (.inl (.boolean, n, .inl ((upd f i.toNatClampNeg (vp_nar .boolean x)))))) kc ks Q X) : V K M pc lv (.int x :: .int i :: .ref a :: st) h kc ks Q X := by
  intro mc ms p e s m args below meth c R H locs cells slots ls C0 I
  obtain ⟨cA, h1, h2, h3⟩ := I.1 a _ ha
  refine W.zast C0.1 C0.2.1 h3 (h1 n _) (fun q => by cases q) (by show ¬ (i < 0 ∨ (arrV _ _ _).slots.size ≤ _); rw [arrV_size]; exact hin) rfl rfl hd fun H1 e1 z oq => ?_
  refine kk mc ms p e s m args below meth c R H1 _ cells slots ls C0 ⟨I.1.upd oq ⟨cA, h1, h2, ?_⟩, dom_up I.2.1 ha, I.2.2.1.put z oq (I.2.1 a _ ha), I.2.2.2⟩
  show H1[a]? = some (vp_cell _ _)
  rw [e1]
  rw [vp_cell_i, vp_cell_i, arrV_store]
  congr 2
  funext q
  by_cases hq : q = i.toNatClampNeg
  · subst hq
    simp [updV, upd, vp_updL, vp_nar_byte, vp_nar, narrow]
  · simp [updV, upd, vp_updL, hq]
theorem v_last (pc : Nat) {a n : Nat} {f : Nat → Int64} {i : Int32} {x : Int64} (hd : decode M.2.1 pc = .ok (.lastore, 1)) (ha : h a = some (.inl (.long, n, .inr (.inl (f))))) (hin : vp_in i n)
    (kk : V K M (pc + 1) lv st (hup h a (.inl (.long, n, .inr (.inl ((vp_updL f i.toNatClampNeg x)))))) kc ks Q X) : V K M pc lv (.long x :: .int i :: .ref a :: st) h kc ks Q X := by
  intro mc ms p e s m args below meth c R H locs cells slots ls C0 I
  obtain ⟨cA, h1, h2, h3⟩ := I.1 a _ ha
  refine W.last C0.1 C0.2.1 h3 (h1 n _) (fun q => by cases q) (by show ¬ (i < 0 ∨ (arrV _ _ _).slots.size ≤ _); rw [arrV_size]; exact hin) rfl rfl hd fun H1 e1 z oq => ?_
  refine kk mc ms p e s m args below meth c R H1 _ cells slots ls C0 ⟨I.1.upd oq ⟨cA, h1, h2, ?_⟩, dom_up I.2.1 ha, I.2.2.1.put z oq (I.2.1 a _ ha), I.2.2.2⟩
  show H1[a]? = some (vp_cell _ _)
  rw [e1]
  rw [vp_cell_l, vp_cell_l, arrV_store]
  congr 2
  funext q
  by_cases hq : q = i.toNatClampNeg
  · subst hq
    simp [updV, upd, vp_updL, vp_nar_byte, vp_nar, narrow]
  · simp [updV, upd, vp_updL, hq]
end HR

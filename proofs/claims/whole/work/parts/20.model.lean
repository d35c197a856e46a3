/-! ===== THE REFERENCE'S OBJECT: its ints S.1 k and its rows S.2 k, by the numbers of its fields ===== -/
abbrev MS : Type := (Nat → Int32) × (Nat → Nat → Int32)
def mI (S : MS) (k : Nat) (v : Int32) : MS := (fun j => if j = k then v else S.1 j, S.2)
def mA (S : MS) (k : Nat) (f : Nat → Int32) : MS := (S.1, fun j => if j = k then f else S.2 j)
theorem mI_s (S : MS) (k : Nat) (v : Int32) : (mI S k v).1 k = v := if_pos rfl
theorem mI_n {S : MS} {j k : Nat} {v : Int32} (h : j ≠ k) : (mI S k v).1 j = S.1 j := if_neg h
theorem mI_2 (S : MS) (k : Nat) (v : Int32) : (mI S k v).2 = S.2 := rfl
theorem mA_s (S : MS) (k : Nat) (f : Nat → Int32) : (mA S k f).2 k = f := if_pos rfl
theorem mA_n {S : MS} {j k : Nat} {f : Nat → Int32} (h : j ≠ k) : (mA S k f).2 j = S.2 j := if_neg h
theorem mA_1 (S : MS) (k : Nat) (f : Nat → Int32) : (mA S k f).1 = S.1 := rfl
def mF (ad : Nat → Nat) (S : MS) : List Value := [.int (S.1 0), .int (S.1 1), .ref (ad 2), .ref (ad 3), .ref (ad 4), .int (S.1 5), .ref (ad 6), .int (S.1 7), .ref (ad 8), .ref (ad 9), .ref (ad 10), .ref (ad 11), .int (S.1 12), .int (S.1 13), .int (S.1 14), .ref (ad 15), .int (S.1 16), .int (S.1 17), .ref (ad 18), .ref (ad 19)]
def mTy (k : Nat) : FieldType := if k = 4 ∨ k = 19 then .boolean else if k = 8 ∨ k = 18 then .byte else .int
def mLen (k : Nat) : Nat := if k = 2 then 33 else if k = 3 then 231 else if k = 4 then 33 else if k = 6 then 1799 else if k = 8 then 20000 else if k = 9 then 7 else if k = 10 then 14 else if k = 11 then 2 else if k = 15 then 5 else if k = 18 then 2048 else 32
def mKs : List Nat := [2, 3, 4, 6, 8, 9, 10, 11, 15, 18, 19]
def mIs : List Nat := [0, 1, 5, 7, 12, 13, 14, 16, 17]
def mPut (h : AH) (mo : Nat) (ad : Nat → Nat) (S : MS) : AH := fun q => if q = mo then some (.inr (5, mF ad S)) else match mKs.find? (fun k => ad k == q) with
  | some k => some (.inl (mTy k, mLen k, .inl (S.2 k)))
  | none => h q
def mDis (mo : Nat) (ad : Nat → Nat) : Prop := (∀ k ∈ mKs, ad k ≠ mo) ∧ ∀ j ∈ mKs, ∀ k ∈ mKs, ad j = ad k → j = k
theorem mPut_o {h : AH} {mo : Nat} {ad : Nat → Nat} {S : MS} : mPut h mo ad S mo = some (.inr (5, mF ad S)) := if_pos rfl
theorem mfind {mo : Nat} {ad : Nat → Nat} {k : Nat} (hd : mDis mo ad) (hk : k ∈ mKs) : mKs.find? (fun j => ad j == ad k) = some k := by
  cases hf : mKs.find? (fun j => ad j == ad k) with
  | none =>
    have := List.find?_eq_none.mp hf k hk
    simp at this
  | some j =>
    have h1 := List.find?_some hf
    have h2 := List.mem_of_find?_eq_some hf
    rw [hd.2 j h2 k hk (by simpa using h1)]
theorem mPut_a {h : AH} {mo : Nat} {ad : Nat → Nat} {S : MS} {k : Nat} (hd : mDis mo ad) (hk : k ∈ mKs) : mPut h mo ad S (ad k) = some (.inl (mTy k, mLen k, .inl (S.2 k))) := by
  unfold mPut
  rw [if_neg (hd.1 k hk), mfind hd hk]
theorem mF_set {ad : Nat → Nat} {S : MS} {k : Nat} {v : Int32} (hk : k ∈ mIs) : (mF ad S).set k (.int v) = mF ad (mI S k v) := by
  simp only [mIs, List.mem_cons, List.not_mem_nil, or_false] at hk
  rcases hk with rfl | rfl | rfl | rfl | rfl | rfl | rfl | rfl | rfl <;> simp [mF, mI]
theorem mPut_ui {h : AH} {mo : Nat} {ad : Nat → Nat} {S : MS} {k : Nat} {v : Int32} (hk : k ∈ mIs) : hup (mPut h mo ad S) mo (.inr (5, (mF ad S).set k (.int v))) = mPut h mo ad (mI S k v) := by
  funext q
  by_cases hq : q = mo
  · subst hq; rw [hup_s, mPut_o, mF_set hk]
  · rw [hup_n hq]; unfold mPut; rw [if_neg hq, if_neg hq]; rfl
theorem mPut_ua {h : AH} {mo : Nat} {ad : Nat → Nat} {S : MS} {k : Nat} {f : Nat → Int32} (hd : mDis mo ad) (hk : k ∈ mKs) : hup (mPut h mo ad S) (ad k) (.inl (mTy k, mLen k, .inl f)) = mPut h mo ad (mA S k f) := by
  funext q
  by_cases hq : q = ad k
  · subst hq; rw [hup_s, mPut_a hd hk, mA_s]
  · rw [hup_n hq]
    unfold mPut
    by_cases hm : q = mo
    · subst hm; rw [if_pos rfl, if_pos rfl]; rfl
    · rw [if_neg hm, if_neg hm]
      cases hf : mKs.find? (fun j => ad j == q) with
      | none => rfl
      | some j =>
        have h1 : ad j = q := by simpa using List.find?_some hf
        have hjk : j ≠ k := fun e => hq (by rw [← h1, e])
        simp only [mA_n hjk]
theorem mPut_mPut {h : AH} {mo : Nat} {ad : Nat → Nat} {S S' : MS} : mPut (mPut h mo ad S) mo ad S' = mPut h mo ad S' := by
  funext q
  unfold mPut
  by_cases hm : q = mo
  · rw [if_pos hm, if_pos hm]
  · rw [if_neg hm, if_neg hm]
    cases hf : mKs.find? (fun j => ad j == q) with
    | none => simp [hf, hm]
    | some j => simp [hm]
section MO
variable {K : KT} {M : MT} {lv : List (Option Value)} {st : List Value} {h : AH} {mo : Nat} {ad : Nat → Nat} {S : MS} {kc ks : Nat} {Q : QR} {X : QX}
theorem m_put (pc : Nat) {index k : Nat} {ty : FieldType} {decl : String} {v : Int32} (hd : decode M.2.1 pc = .ok (.putfield index, 3)) (hF : FL M.1.cls index 5 k ty false decl) (kk : V K M (pc + 3) lv st (mPut h mo ad (mI S k v)) kc ks Q X) (hk : k ∈ mIs := by decide) (hn : narrow ty (.int v) = .int v := by rfl) (hf : fits ty (.int v) = true := by rfl) : V K M pc lv (.int v :: .ref mo :: st) (mPut h mo ad S) kc ks Q X :=
  v_putf pc hd hF mPut_o (by simp only [mIs, List.mem_cons, List.not_mem_nil, or_false] at hk; rcases hk with rfl | rfl | rfl | rfl | rfl | rfl | rfl | rfl | rfl <;> simp [mF]) hn hf (V.eq kk rfl rfl rfl (mPut_ui hk).symm)
theorem m_ild (pc k : Nat) {i : Int32} (hd : decode M.2.1 pc = .ok (.iaload, 1)) (hds : mDis mo ad) (hin : vp_in i (mLen k)) (kk : V K M (pc + 1) lv (.int (S.2 k i.toNatClampNeg) :: st) (mPut h mo ad S) kc ks Q X) (hk : k ∈ mKs := by decide) (ht : mTy k = .int := by rfl) : V K M pc lv (.int i :: .ref (ad k) :: st) (mPut h mo ad S) kc ks Q X :=
  v_iald pc hd (by rw [mPut_a hds hk, ht]) hin kk
theorem m_bld (pc k : Nat) {i : Int32} (hd : decode M.2.1 pc = .ok (.baload, 1)) (hds : mDis mo ad) (hin : vp_in i (mLen k)) (kk : V K M (pc + 1) lv (.int (S.2 k i.toNatClampNeg) :: st) (mPut h mo ad S) kc ks Q X) (hk : k ∈ mKs := by decide) (ht : mTy k = .byte := by rfl) : V K M pc lv (.int i :: .ref (ad k) :: st) (mPut h mo ad S) kc ks Q X :=
  v_bald pc hd (by rw [mPut_a hds hk, ht]) hin kk
theorem m_zld (pc k : Nat) {i : Int32} (hd : decode M.2.1 pc = .ok (.baload, 1)) (hds : mDis mo ad) (hin : vp_in i (mLen k)) (kk : V K M (pc + 1) lv (.int (S.2 k i.toNatClampNeg) :: st) (mPut h mo ad S) kc ks Q X) (hk : k ∈ mKs := by decide) (ht : mTy k = .boolean := by rfl) : V K M pc lv (.int i :: .ref (ad k) :: st) (mPut h mo ad S) kc ks Q X :=
  v_zald pc hd (by rw [mPut_a hds hk, ht]) hin kk
theorem m_ist (pc k : Nat) {i x : Int32} (hd : decode M.2.1 pc = .ok (.iastore, 1)) (hds : mDis mo ad) (hin : vp_in i (mLen k)) (kk : V K M (pc + 1) lv st (mPut h mo ad (mA S k (upd (S.2 k) i.toNatClampNeg x))) kc ks Q X) (hk : k ∈ mKs := by decide) (ht : mTy k = .int := by rfl) : V K M pc lv (.int x :: .int i :: .ref (ad k) :: st) (mPut h mo ad S) kc ks Q X :=
  v_iast pc hd (by rw [mPut_a hds hk, ht]) hin (V.eq kk rfl rfl rfl (by rw [← mPut_ua hds hk, ht]))
theorem m_bst (pc k : Nat) {i x : Int32} (hd : decode M.2.1 pc = .ok (.bastore, 1)) (hds : mDis mo ad) (hin : vp_in i (mLen k)) (kk : V K M (pc + 1) lv st (mPut h mo ad (mA S k (upd (S.2 k) i.toNatClampNeg (vp_nar .byte x)))) kc ks Q X) (hk : k ∈ mKs := by decide) (ht : mTy k = .byte := by rfl) : V K M pc lv (.int x :: .int i :: .ref (ad k) :: st) (mPut h mo ad S) kc ks Q X :=
  v_bast pc hd (by rw [mPut_a hds hk, ht]) hin (V.eq kk rfl rfl rfl (by rw [← mPut_ua hds hk, ht]))
theorem m_zst (pc k : Nat) {i x : Int32} (hd : decode M.2.1 pc = .ok (.bastore, 1)) (hds : mDis mo ad) (hin : vp_in i (mLen k)) (kk : V K M (pc + 1) lv st (mPut h mo ad (mA S k (upd (S.2 k) i.toNatClampNeg (vp_nar .boolean x)))) kc ks Q X) (hk : k ∈ mKs := by decide) (ht : mTy k = .boolean := by rfl) : V K M pc lv (.int x :: .int i :: .ref (ad k) :: st) (mPut h mo ad S) kc ks Q X :=
  v_zast pc hd (by rw [mPut_a hds hk, ht]) hin (V.eq kk rfl rfl rfl (by rw [← mPut_ua hds hk, ht]))
/-- a call of one of the reference's own methods -/
theorem m_call (pc : Nat) {index n : Nat} {M' : MT} (As : List Value) {Q' : QR} (hd : decode M.2.1 pc = .ok (.invokevirtual index, 3)) (hL : CLv M.1.cls index M' n 5) (hct : Ct K M' 0 0 (.ref mo :: As) (mPut h mo ad S) Q' noX) (kk : ∀ r h', Q' r h' → V K M (pc + 3) lv (r.toList ++ st) h' kc ks Q X)
    (hn : As.length = n := by rfl) (hlev : M'.2.2.2.2.1 + 1 ≤ M.2.2.2.2.1 := by decide) (hst : (st.map fun v => v.category).sum ≤ 8 := by exact Nat.le_of_ble_eq_true rfl) : V K M pc lv (As.reverse ++ .ref mo :: st) (mPut h mo ad S) kc ks Q X :=
  v_callV pc kc ks As hd hL hct mPut_o kk (fun _ _ z => z) hn hlev hst (by omega) (by omega)
end MO

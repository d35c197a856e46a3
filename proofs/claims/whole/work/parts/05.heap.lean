/-! ===== THE ABSTRACT HEAP: what is known of the cells, by their addresses ===== -/
abbrev AE : Type := (FieldType × vp_A) ⊕ (Nat × List Value)
abbrev AH : Type := Nat → Option AE
def hup (h : AH) (a : Nat) (e : AE) : AH := fun q => if q = a then some e else h q
theorem hup_s (h : AH) (a : Nat) (e : AE) : hup h a e a = some e := if_pos rfl
theorem hup_n {h : AH} {a q : Nat} {e : AE} (n : q ≠ a) : hup h a e q = h q := if_neg n
theorem hup_hup (h : AH) (a : Nat) (e e' : AE) : hup (hup h a e) a e' = hup h a e' := by
  funext q; unfold hup; split <;> rfl
theorem hup_id {h : AH} {a : Nat} {e : AE} (he : h a = some e) : hup h a e = h := by
  funext q; unfold hup; split
  · next hq => rw [hq, he]
  · rfl
def hat (D : va_G) (U : State) (a : Nat) (e : AE) (H : Heap) : Prop := match e with
  | .inl x => ∃ cA : ClassId, ArrOfT U cA x.1 ∧ va_RA U cA x.1 ∧ H[a]? = some (vp_cell cA x.2)
  | .inr o => va_at D vwCl (a, .inr o) H
theorem hat.kept {D : va_G} {U : State} {a : Nat} {e : AE} {H H1 : Heap} (h : hat D U a e H) (hq : H1[a]? = H[a]?) : hat D U a e H1 := by
  cases e with
  | inl x => obtain ⟨cA, h1, h2, h3⟩ := h; exact ⟨cA, h1, h2, hq.trans h3⟩
  | inr o => exact va_at.kept (q := (a, .inr o)) h hq
theorem hat.lt {D : va_G} {U : State} {a : Nat} {e : AE} {H : Heap} (h : hat D U a e H) : a < H.size := by
  cases e with
  | inl x => obtain ⟨cA, h1, h2, h3⟩ := h; exact (Array.getElem?_eq_some_iff.mp h3).1
  | inr o => exact va_at.lt (q := (a, .inr o)) h
theorem hat.moved {D : va_G} {u U : State} {a : Nat} {e : AE} {H : Heap} (hvm : u.vm.Alike U.vm) (h : hat D u a e H) : hat D U a e H := by
  cases e with
  | inl x => obtain ⟨cA, h1, h2, h3⟩ := h; exact ⟨cA, arrOfT_moved hvm h1, h2.moved hvm, h3⟩
  | inr o => exact h
def hold (D : va_G) (U : State) (h : AH) (H : Heap) : Prop := ∀ (a : Nat) (e : AE), h a = some e → hat D U a e H
theorem hold.moved {D : va_G} {u U : State} {h : AH} {H : Heap} (hvm : u.vm.Alike U.vm) (hh : hold D u h H) : hold D U h H := fun a e he => (hh a e he).moved hvm
theorem hold.kept {D : va_G} {U : State} {h : AH} {H H1 : Heap} (hh : hold D U h H) (hq : ∀ a : Nat, a < H.size → H1[a]? = H[a]?) : hold D U h H1 := fun a e he => (hh a e he).kept (hq a (hh a e he).lt)
theorem hold.free {D : va_G} {U : State} {h : AH} {H : Heap} (hh : hold D U h H) : h H.size = none := by
  cases he : h H.size with
  | none => rfl
  | some e => exact absurd (hh _ _ he).lt (Nat.lt_irrefl _)
theorem hold.upd {D : va_G} {U : State} {h : AH} {H H1 : Heap} {a : Nat} {e : AE} (hh : hold D U h H) (oq : ∀ q : Nat, q ≠ a → H1[q]? = H[q]?) (he : hat D U a e H1) : hold D U (hup h a e) H1 := by
  intro q e' hq
  by_cases hqa : q = a
  · subst hqa
    rw [hup_s] at hq
    cases hq
    exact he
  · rw [hup_n hqa] at hq
    exact (hh q e' hq).kept (oq q hqa)
/-! ===== THE LOCALS by their places ===== -/
def lvh (ls : Array Slot) (nL : Nat) (lv : List (Option Value)) : Prop := ls.size = nL ∧ lv_wf ls ∧ ∀ (i : Nat) (v : Value), lv[i]? = some (some v) → ls[i]? = some (.val v)
def prs : Nat → List (Option Value) → List (Nat × Value)
  | _, [] => []
  | n, none :: r => prs (n + 1) r
  | n, some v :: r => (n, v) :: prs (n + 1) r
theorem prs_mem : ∀ (lv : List (Option Value)) (n : Nat) (q : Nat × Value), q ∈ prs n lv → ∃ k, lv[k]? = some (some q.2) ∧ q.1 = n + k
  | [], _, _, h => by cases h
  | none :: r, n, q, h => by
    obtain ⟨k, h1, h2⟩ := prs_mem r (n + 1) q h
    exact ⟨k + 1, h1, by omega⟩
  | some v :: r, n, q, h => by
    rcases List.mem_cons.mp h with h | h
    · subst h; exact ⟨0, rfl, rfl⟩
    · obtain ⟨k, h1, h2⟩ := prs_mem r (n + 1) q h
      exact ⟨k + 1, h1, by omega⟩
theorem mem_prs : ∀ (lv : List (Option Value)) (n k : Nat) (v : Value), lv[k]? = some (some v) → (n + k, v) ∈ prs n lv
  | [], _, _, _, h => by simp at h
  | none :: r, n, k, v, h => by
    cases k with
    | zero => simp at h
    | succ k =>
      have := mem_prs r (n + 1) k v (by simpa using h)
      have e : n + (k + 1) = n + 1 + k := by omega
      rw [e]; exact this
  | some w :: r, n, k, v, h => by
    cases k with
    | zero =>
      have hw : w = v := by simpa using h
      subst hw; exact List.mem_cons_self
    | succ k =>
      have := mem_prs r (n + 1) k v (by simpa using h)
      have e : n + (k + 1) = n + 1 + k := by omega
      rw [e]; exact List.mem_cons_of_mem _ this
theorem lvh.has {ls : Array Slot} {nL : Nat} {lv : List (Option Value)} (h : lvh ls nL lv) : lv_has ls nL (prs 0 lv) := by
  refine ⟨h.1, h.2.1, fun q hq => ?_⟩
  obtain ⟨k, h1, h2⟩ := prs_mem lv 0 q hq
  rw [show q.1 = k by omega]
  exact h.2.2 k q.2 h1
/-- the place before i holds nothing of two places -/
def lc1 (lv : List (Option Value)) (i : Nat) : Prop := ∀ (j : Nat) (w : Value), j + 1 = i → lv[j]? = some (some w) → w.category = 1
theorem lvh.st1 {ls' : Array Slot} {nL : Nat} {lv : List (Option Value)} {i : Nat} {v : Value} (hp : lc1 lv i)
    (h' : lv_has ls' nL ((i, v) :: (prs 0 lv).filter (fun q => !(q.1 == i) && !(q.1 + 1 == i && q.2.category == 2)))) : lvh ls' nL (lv.set i (some v)) := by
  refine ⟨h'.1, h'.2.1, fun j w hj => ?_⟩
  by_cases hji : j = i
  · subst hji
    rw [List.getElem?_set] at hj
    have hw : w = v := by
      split at hj
      · split at hj
        · simpa using hj.symm
        · cases hj
      · rename_i hh; exact absurd rfl hh
    subst hw
    exact h'.2.2 _ List.mem_cons_self
  · rw [List.getElem?_set_ne (Ne.symm hji)] at hj
    refine h'.2.2 (j, w) (List.mem_cons_of_mem _ (List.mem_filter.mpr ⟨?_, ?_⟩))
    · have := mem_prs lv 0 j w hj
      rwa [Nat.zero_add] at this
    · by_cases hj1 : j + 1 = i
      · have := hp j w hj1 hj
        simp [hji, this]
      · simp [hji, hj1]
theorem lvh.st2 {ls' : Array Slot} {nL : Nat} {lv : List (Option Value)} {i : Nat} {v : Value} (hp : lc1 lv i)
    (h' : lv_has ls' nL ((i, v) :: (prs 0 lv).filter (fun q => !(q.1 == i) && (!(q.1 == i + 1) && !(q.1 + 1 == i && q.2.category == 2))))) : lvh ls' nL ((lv.set i (some v)).set (i + 1) none) := by
  refine ⟨h'.1, h'.2.1, fun j w hj => ?_⟩
  by_cases hj1 : j = i + 1
  · subst hj1
    rw [List.getElem?_set] at hj
    exfalso
    split at hj
    · split at hj
      · simp at hj
      · cases hj
    · rename_i hh; exact absurd rfl hh
  · rw [List.getElem?_set_ne (Ne.symm hj1)] at hj
    by_cases hji : j = i
    · subst hji
      rw [List.getElem?_set] at hj
      have hw : w = v := by
        split at hj
        · split at hj
          · simpa using hj.symm
          · cases hj
        · rename_i hh; exact absurd rfl hh
      subst hw
      exact h'.2.2 _ List.mem_cons_self
    · rw [List.getElem?_set_ne (Ne.symm hji)] at hj
      refine h'.2.2 (j, w) (List.mem_cons_of_mem _ (List.mem_filter.mpr ⟨?_, ?_⟩))
      · have := mem_prs lv 0 j w hj
        rwa [Nat.zero_add] at this
      · by_cases hj2 : j + 1 = i
        · have := hp j w hj2 hj
          simp [hji, hj1, this]
        · simp [hji, hj1, hj2]
/-- the locals at a method's entry -/
def enl : List Value → List (Option Value)
  | [] => []
  | v :: vs => if v.category = 2 then some v :: none :: enl vs else some v :: enl vs
theorem enl_args : ∀ (vs : List Value) (n k : Nat) (v : Value), (enl vs)[k]? = some (some v) → (n + k, v) ∈ lv_args n vs
  | [], _, _, _, h => by simp [enl] at h
  | w :: vs, n, k, v, h => by
    unfold enl at h
    unfold lv_args
    by_cases hc : w.category = 2
    · rw [if_pos hc] at h ⊢
      match k, h with
      | 0, h =>
        have : w = v := by simpa using h
        subst this; exact List.mem_cons_self
      | 1, h => simp at h
      | k + 2, h =>
        have := enl_args vs (n + 2) k v (by simpa using h)
        have e : n + (k + 2) = n + 2 + k := by omega
        rw [e]; exact List.mem_cons_of_mem _ this
    · rw [if_neg hc] at h ⊢
      match k, h with
      | 0, h =>
        have : w = v := by simpa using h
        subst this; exact List.mem_cons_self
      | k + 1, h =>
        have := enl_args vs (n + 1) k v (by simpa using h)
        have e : n + (k + 1) = n + 1 + k := by omega
        rw [e]; exact List.mem_cons_of_mem _ this
theorem lvh_entry (vs : List Value) {n : Nat} (h : (lg_sl vs).length ≤ n) : lvh ((lg_sl vs ++ List.replicate (n - (lg_sl vs).length) Slot.unset).toArray) n (enl vs ++ List.replicate (n - (enl vs).length) none) := by
  have h0 := lv_entry vs h
  refine ⟨h0.1, h0.2.1, fun i v hi => ?_⟩
  have hi' : (enl vs)[i]? = some (some v) := by
    by_cases hl : i < (enl vs).length
    · rwa [List.getElem?_append_left hl] at hi
    · rw [List.getElem?_append_right (by omega), List.getElem?_replicate] at hi
      split at hi
      · simp at hi
      · cases hi
  have := enl_args vs 0 i v hi'
  rw [Nat.zero_add] at this
  exact h0.2.2 _ this

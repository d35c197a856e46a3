/-! ===== throw new E("text") ===== -/
def exN : List String := ["java/lang/RuntimeException", "java/lang/Exception"]
def exW (ic : Nat) (E : String) : List Cond := vx_atS RX3 ic E exN
def ngW : List Cond := dcM.map Cond.declares ++ ncW.map (fun q => Cond.castable q.1 q.2)
def exOk (ik is ic : Nat) (text E : String) : Prop := Bundle.fit E = true ∧ Cond.classLink RX3 ik E ∈ gW ∧ Cond.initialized E ∈ gW ∧ Cond.stringRef RX3 is text ∈ tables_1 ∧ (∀ w ∈ (exW ic E).filter goodWord, w ∈ gW) ∧ (∀ w ∈ (exW ic E).filter (fun w => !goodWord w), w ∈ ngW) ∧ ∀ w ∈ Cond.classLink RX3 ik E :: Cond.initialized E :: exW ic E, vx_ot w = true
theorem exN_fit : ∀ n ∈ exN, Bundle.fit n = true := by decide +kernel
theorem ex_79 : exOk 77 79 81 "the shelf is full" "java/lang/IllegalStateException" := ⟨by decide +kernel, by decide +kernel, by decide +kernel, by decide +kernel, by decide +kernel, by decide +kernel, by decide +kernel⟩
theorem ex_96 : exOk 77 96 81 "no font has the ID at hand" "java/lang/IllegalStateException" := ⟨ex_79.1, ex_79.2.1, ex_79.2.2.1, by decide +kernel, ex_79.2.2.2.2⟩
theorem ex_117 : exOk 77 117 81 "no glyph is being loaded" "java/lang/IllegalStateException" := ⟨ex_79.1, ex_79.2.1, ex_79.2.2.1, by decide +kernel, ex_79.2.2.2.2⟩
theorem ex_187 : exOk 77 187 81 "no such glyph in a font chosen" "java/lang/IllegalStateException" := ⟨ex_79.1, ex_79.2.1, ex_79.2.2.1, by decide +kernel, ex_79.2.2.2.2⟩
theorem ex_100 : exOk 98 100 102 "no glyph has such a number" "java/lang/IllegalArgumentException" := ⟨by decide +kernel, by decide +kernel, by decide +kernel, by decide +kernel, by decide +kernel, by decide +kernel, by decide +kernel⟩
theorem ex_146 : exOk 98 146 102 "nothing such can be dropped" "java/lang/IllegalArgumentException" := ⟨ex_100.1, ex_100.2.1, ex_100.2.2.1, by decide +kernel, ex_100.2.2.2.2⟩
theorem ex_181 : exOk 98 181 102 "no such font at hand, or nothing such of a glyph" "java/lang/IllegalArgumentException" := ⟨ex_100.1, ex_100.2.1, ex_100.2.2.1, by decide +kernel, ex_100.2.2.2.2⟩
theorem ex_129 : exOk 127 129 131 "no room for the glyph" "java/lang/UnsupportedOperationException" := ⟨by decide +kernel, by decide +kernel, by decide +kernel, by decide +kernel, by decide +kernel, by decide +kernel, by decide +kernel⟩
theorem ex_174 : exOk 172 174 176 "no such font, or nothing such of it" "java/lang/IndexOutOfBoundsException" := ⟨by decide +kernel, by decide +kernel, by decide +kernel, by decide +kernel, by decide +kernel, by decide +kernel, by decide +kernel⟩
theorem ex_211 : exOk 172 211 176 "no such wish, or nothing such of it" "java/lang/IndexOutOfBoundsException" := ⟨ex_174.1, ex_174.2.1, ex_174.2.2.1, by decide +kernel, ex_174.2.2.2.2⟩
theorem ngW_at {K : KT} {s : State} {args : Array Value} (hK : KW K s) : ∀ w ∈ ngW, w.before args s = true := by
  intro w hw
  rcases List.mem_append.mp hw with hw | hw
  · obtain ⟨y, hy, rfl⟩ := List.mem_map.mp hw
    exact va_Nw.use rfl (hK.2.2.2.2.2.2.2.2.2.2.2.2.2 y hy)
  · obtain ⟨q, hq, rfl⟩ := List.mem_map.mp hw
    exact va_Nw.use rfl (hK.2.2.2.2.2.1 q hq)
theorem v_throw {K : KT} {M : MT} {lv : List (Option Value)} {st : List Value} {h : AH} {kc ks : Nat} {Q : QR} {X : QX} (pc : Nat) {ik is ic : Nat} {text E : String} (hM : M.1.cls = RX3) (hh : M.2.2.2.2.2 = []) (hE : exOk ik is ic text E) (d0 : decode M.2.1 pc = .ok (.new ik, 3)) (d3 : decode M.2.1 (pc + 3) = .ok (.dup, 1)) (d4 : decode M.2.1 (pc + 4) = .ok (.ldc is, 2)) (d6 : decode M.2.1 (pc + 6) = .ok (.invokespecial ic, 3)) (d9 : decode M.2.1 (pc + 9) = .ok (.athrow, 1))
    (hx : X E h) (hlev : 6 ≤ M.2.2.2.2.1 := by decide) (hst : (st.map fun v => v.category).sum ≤ 8 := by exact Nat.le_of_ble_eq_true rfl) : V K M pc lv st h (kc + 1) (ks + 6) Q X := by
  intro mc ms p e s m args below meth c R H locs cells slots ls C I
  obtain ⟨e1, e2, e3, e4, e5, e6, e7⟩ := hE
  have hts := C.2.2.2.2.2.2.2.1
  have hKW := C.2.2.2.2.2.2.2.2.1
  have hB := C.2.2.2.2.2.2.2.2.2.1
  have hR := C.2.2.2.2.2.2.2.2.2.2.1
  have ho := C.2.2.2.2.1
  rw [hM] at ho
  obtain ⟨i1, i2, i3, i4, i5, i6⟩ := I
  obtain ⟨sa, hsa⟩ := hKW.2.2.2.2.2.2.2.1 is text e4
  have hKS := hKW.2.2.1
  refine vx_throwS (own := RX3) (cls := E) (text := text) (names := exN) (ik := ik) (is := is) (ic := ic) (A := kA K) C.1 C.2.1 hKW.1 ho e1 exN_fit (hts _ e2) (hts _ e3) hsa (vx_hat (fun w hw => hts w (e5 w hw)) e6 (ngW_at hKW)) e7 (hKS.2.2.2.2.2.2.2.2.1.kept (fun a ha _ => hB.2 a ha)) (hKS.2.2.2.2.2.2.2.2.2.kept (fun a ha _ => hB.2 a ha)) i3 (by rw [C.2.2.2.1]; exact i4.1) d0 d3 d4 d6 d9 ?_ ?_ ?_ ?_ ?_ C.2.2.2.2.2.1 ?_ i3.2.2 (by omega) (by omega)
  · intro x hx
    rw [C.2.2.2.2.2.2.2.2.2.2.2, hh] at hx
    cases hx
  · show 2 + 3 < _
    omega
  · show _ + (13 * (2 + 1) + 43) ≤ _
    omega
  · omega
  · omega
  · intro t hvm hz hk
    exact ⟨h, hx, (i1.kept hk).moved hvm, i2, ⟨Nat.le_trans i3.1 hz, fun q h1 h2 => (hk q (Nat.lt_of_lt_of_le h1 i3.1)).trans (i3.2.1 q h1 h2)⟩⟩

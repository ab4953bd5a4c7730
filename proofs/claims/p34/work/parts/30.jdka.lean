/-! lists of the Java library: a list's object at a, its array at arr of the size cap, n elements, f tells them -/
def capN (cap : Nat) : Nat := if cap = 0 then 10 else cap + max 1 (cap / 2)
/-- an array of references, of which nothing is told where it has no places (the library's one empty array is such) -/
def ra (k : ClassId) (H : Heap) (q n : Nat) (f : Nat → Option Nat) : Prop := (0 < n → rc k H q n f) ∧ q < H.size
theorem rc.ra {k : ClassId} {H : Heap} {q n : Nat} {f : Nat → Option Nat} (h : rc k H q n f) : ra k H q n f := ⟨fun _ => h, h.lt⟩
theorem ra.kept {k : ClassId} {H H1 : Heap} {q n : Nat} {f : Nat → Option Nat} (h : ra k H q n f) (e : H1[q]? = H[q]?) : ra k H1 q n f := by
  refine ⟨fun h0 => (h.1 h0).kept e, ?_⟩
  rw [Array.getElem?_eq_getElem h.2] at e
  exact (Array.getElem?_eq_some_iff.mp e).1
def AL (D : va_G) (T : Nat → ClassId) (dE : Nat) (H : Heap) (a arr cap n : Nat) (f : Nat → Nat) : Prop := arr ≠ a ∧ n ≤ cap ∧ cap < 100000 ∧ (cap = 0 → arr = dE) ∧ ∃ (mo : Int32) (fe : Nat → Option Nat), oc D H a 2 [.int mo, .ref arr, .int (nI n)] ∧ ra (T 3) H arr cap fe ∧ ∀ i, i < n → fe i = some (f i)
theorem AL.kept {D : va_G} {T : Nat → ClassId} {dE : Nat} {H H1 : Heap} {a arr cap n : Nat} {f : Nat → Nat} (h : AL D T dE H a arr cap n f) (e1 : H1[a]? = H[a]?) (e2 : H1[arr]? = H[arr]?) : AL D T dE H1 a arr cap n f := by
  obtain ⟨h1, h2, h3, h4, mo, fe, h5, h6, h7⟩ := h
  exact ⟨h1, h2, h3, h4, mo, fe, h5.kept e1, h6.kept e2, h7⟩
theorem AL.cong {D : va_G} {T : Nat → ClassId} {dE : Nat} {H : Heap} {a arr cap n : Nat} {f f1 : Nat → Nat} (h : AL D T dE H a arr cap n f) (e : ∀ i, i < n → f1 i = f i) : AL D T dE H a arr cap n f1 := by
  obtain ⟨h1, h2, h3, h4, mo, fe, h5, h6, h7⟩ := h
  exact ⟨h1, h2, h3, h4, mo, fe, h5, h6, fun i hi => by rw [e i hi]; exact h7 i hi⟩
theorem AL.lt {D : va_G} {T : Nat → ClassId} {dE : Nat} {H : Heap} {a arr cap n : Nat} {f : Nat → Nat} (h : AL D T dE H a arr cap n f) : a < H.size ∧ arr < H.size := by
  obtain ⟨h1, h2, h3, h4, mo, fe, h5, h6, h7⟩ := h
  exact ⟨h5.lt, h6.2⟩
theorem AL.rec {D : va_G} {T : Nat → ClassId} {dE : Nat} {H : Heap} {a arr cap n : Nat} {f : Nat → Nat} (h : AL D T dE H a arr cap n f) : ∃ fs, oc D H a 2 fs := by
  obtain ⟨h1, h2, h3, h4, mo, fe, h5, h6, h7⟩ := h
  exact ⟨_, h5⟩
section XOL
variable {p : Program} {l : Launch} {e : Env} {R : Room} {s : State} {m : MethodId} {args : Array Value} {below : List Frame} {meth : Method} {c : Code} {H : Heap} {locs : List Loc} {cells slots : Nat} {Q : State → Prop} {cc : ByteArray} {pc : Nat} {ls : Array Slot} {rest : List Value} {D : va_G} {T : Nat → ClassId} {dE mi a : Nat} {A : Nat → Prop}
theorem x_olenA (hx : p.tables.exec = Jvm.exec) (hb : c.code = cc) (hev : EV D T dE mi A s) (hS : va_S A s.heap H locs) {n : Nat} {f : Nat → Option Nat} (h : ra (T 3) H a n f) (h0 : n = 0 → a = dE) (hdg : decode cc pc = .ok (.arraylength, 1))
    (kk : W p l e R s m args below meth c H locs cells slots Q (F0 m (pc + 1) ls (.int (nI n) :: rest))) : W p l e R s m args below meth c H locs cells slots Q (F0 m pc ls (.ref a :: rest)) := by
  by_cases c0 : n = 0
  · have ha := h0 c0
    subst c0 ha
    exact va_tlen hx hb hev.2.1.2.1 hS (v := nI 0) rfl hdg kk
  · exact x_olen hx hb hev.1 (h.1 (by omega)) hdg kk
end XOL
set_option maxHeartbeats 4000000 in
set_option maxRecDepth 100000 in
theorem c_Jxa1e45_init_da8c8 (l : Launch) {D : va_G} {T : Nat → ClassId} {dE mi : Nat} {A : Nat → Prop} {H : Heap} {a : Nat} : vx_Met l yJxa1e45_init_da8c8 wsJxa1e45_init_da8c8 (rmL 2 0 0) (PcE D T dE mi A H [.ref a]) (QV A (fun H1 => H1 = H)) (XX A (XN)) 0 0 A := by
  refine entry (cc := cJxa1e45_init_da8c8) (maxL := 1) (ret := none) (by decide) rfl (Nat.le_of_ble_eq_true rfl) ?_
  intro p e s m args below meth c hx hb hrt9 hml hown hts hlk hnt hnm hev hS ls hl
  have hown : s.vm.findClass RJxa1e45 = some m.cls := hown
  have hK := hev.1
  have hl : lv_has ls 1 [(0, .ref a)] := hl
  refine lv_aload_n hx hb dJxa1e45_init_da8c8_0 rfl (lv_at hl 0 rfl) ?_
  refine W.objInit hx hb hown (hts (.methodLink RJxa1e45 1 objectInit) (by decide +kernel)) (hts (.instanceMethod objectInit) (by decide +kernel)) (hts (.code objectInit ⟨#[0xb1]⟩ 1 none) (by decide +kernel)) rfl (by rw [hml]; exact hl.1) rfl dJxa1e45_init_da8c8_1 (Nat.le_of_ble_eq_true rfl) (Nat.le_of_ble_eq_true rfl) ?_
  refine W.eq (g2 := F0 m 4 ls []) rfl ?_
  exact r_v hx hb hrt9 hlk hS (Nat.le_of_ble_eq_true rfl) (Nat.le_of_ble_eq_true rfl) dJxa1e45_init_da8c8_4 (rfl)
set_option maxRecDepth 100000 in
theorem in_Jxc12de_init_da8c8_RJx4a65c : ∀ w ∈ wsJx4a65c0, w ∈ wsJxc12de_init_da8c8 := by decide +kernel
set_option maxHeartbeats 4000000 in
set_option maxRecDepth 100000 in
theorem c_Jxc12de_init_da8c8 (l : Launch) {D : va_G} {T : Nat → ClassId} {dE mi : Nat} {A : Nat → Prop} {H : Heap} {a : Nat} {ov : Value} {mo z9 : Int32} (ho : oc D H a 2 [.int mo, ov, .int z9]) (hAa : A a) : vx_Met l yJxc12de_init_da8c8 wsJxc12de_init_da8c8 (rmL 3 0 0) (PcE D T dE mi A H [.ref a]) (QV A (fun H1 => oc D H1 a 2 [.int (nI 0), ov, .int z9] ∧ H1.size = H.size ∧ ∀ q : Nat, q ≠ a → H1[q]? = H[q]?)) (XX A (XN)) 0 0 A := by
  refine entry (cc := cJxc12de_init_da8c8) (maxL := 1) (ret := none) (by decide) rfl (Nat.le_of_ble_eq_true rfl) ?_
  intro p e s m args below meth c hx hb hrt9 hml hown hts hlk hnt hnm hev hS ls hl
  have hown : s.vm.findClass RJxc12de = some m.cls := hown
  have hK := hev.1
  have hl : lv_has ls 1 [(0, .ref a)] := hl
  refine lv_aload_n hx hb dJxc12de_init_da8c8_0 rfl (lv_at hl 0 rfl) ?_
  refine k_vp (k_I (As := []) (rest := []) ⟨hx, hb, hml, hown, hts⟩ hev hS (c_Jxa1e45_init_da8c8 l (A := A) (a := a)) (cwI 0 hts gJxc12de_init_da8c8_Jxa1e45_init_da8c8 rfl rfl rfl (hts (.initialized RJxa1e45) (by decide +kernel)) (hts (.methodLink RJxc12de 1 yJxa1e45_init_da8c8) (by decide +kernel)) (hts (.instanceMethod yJxa1e45_init_da8c8) (by decide +kernel)) rfl (by decide +kernel) ⟨Nat.le_of_ble_eq_true rfl, Nat.le_of_ble_eq_true rfl⟩) rfl hl.1 (Nat.le_of_ble_eq_true rfl) dJxc12de_init_da8c8_1 (Nat.le_of_ble_eq_true rfl) (Nat.le_of_ble_eq_true rfl)) hS hnt hlk (fun _ _ h _ => h.elim) (Nat.le_of_ble_eq_true rfl) (Nat.le_of_ble_eq_true rfl) (fun H1 locs1 hP hz1 hS => ?_)
  refine W.widen (k := 0) (n := 0) (Nat.le_refl _) (Nat.le_refl _) ?_
  have eH := hP
  have ho : oc D H1 a 2 [.int mo, ov, .int z9] := by rw [eH]; exact ho
  refine lv_aload_n hx hb dJxc12de_init_da8c8_4 rfl (lv_at hl 0 rfl) ?_
  refine lv_iconst (v := nI 0) hx hb dJxc12de_init_da8c8_5 (by decide) ?_
  refine x_put (C := RJx4a65c) (TT := TJx4a65c) (N := 3) (ci := 2) (v := .int (nI 0)) (ty := tyJx4a65c 0) hx hb hts in_Jxc12de_init_da8c8_RJx4a65c tyJx4a65c tyJx4a65c_ok nmJx4a65c hown hK hS (ho) hAa rfl 0 (by decide) (hts (.fieldLink RJxc12de 7 "java/util/AbstractList" "modCount" "I") (by decide +kernel)) (fun _ h9 => h9) rfl (tyJx4a65c_ok 0 (by decide)) rfl rfl (Nat.le_of_ble_eq_true rfl) dJxc12de_init_da8c8_6 (fun H2 locs2 ho2 hz2 hq2 hS => ?_)
  have ho2 : oc D H2 a 2 [.int (nI 0), ov, .int z9] := ho2
  exact r_v hx hb hrt9 hlk hS (Nat.le_of_ble_eq_true rfl) (Nat.le_of_ble_eq_true rfl) dJxc12de_init_da8c8_9 (⟨ho2, by rw [hz2, eH], fun q9 h9 => by rw [hq2 q9 h9, eH]⟩)
set_option maxRecDepth 100000 in
theorem in_Jx4a65c_init_da8c8_RJx4a65c : ∀ w ∈ wsJx4a65c0, w ∈ wsJx4a65c_init_da8c8 := by decide +kernel
set_option maxHeartbeats 4000000 in
set_option maxRecDepth 100000 in
theorem c_Jx4a65c_init_da8c8 (l : Launch) {D : va_G} {T : Nat → ClassId} {dE mi : Nat} {A : Nat → Prop} {H : Heap} {a : Nat} {ov : Value} {mo z9 : Int32} (ho : oc D H a 2 [.int mo, ov, .int z9]) (hAa : A a) : vx_Met l yJx4a65c_init_da8c8 wsJx4a65c_init_da8c8 (rmL 4 0 0) (PcE D T dE mi A H [.ref a]) (QV A (fun H1 => oc D H1 a 2 [.int (nI 0), .ref dE, .int z9] ∧ H1.size = H.size ∧ ∀ q : Nat, q ≠ a → H1[q]? = H[q]?)) (XX A (XN)) 0 0 A := by
  refine entry (cc := cJx4a65c_init_da8c8) (maxL := 1) (ret := none) (by decide) rfl (Nat.le_of_ble_eq_true rfl) ?_
  intro p e s m args below meth c hx hb hrt9 hml hown hts hlk hnt hnm hev hS ls hl
  have hown : s.vm.findClass RJx4a65c = some m.cls := hown
  have hK := hev.1
  have hl : lv_has ls 1 [(0, .ref a)] := hl
  refine lv_aload_n hx hb dJx4a65c_init_da8c8_0 rfl (lv_at hl 0 rfl) ?_
  refine k_vp (k_I (As := []) (rest := []) ⟨hx, hb, hml, hown, hts⟩ hev hS (c_Jxc12de_init_da8c8 l ho hAa) (cwI 0 hts gJx4a65c_init_da8c8_Jxc12de_init_da8c8 rfl rfl rfl (hts (.initialized RJxc12de) (by decide +kernel)) (hts (.methodLink RJx4a65c 1 yJxc12de_init_da8c8) (by decide +kernel)) (hts (.instanceMethod yJxc12de_init_da8c8) (by decide +kernel)) rfl (by decide +kernel) ⟨Nat.le_of_ble_eq_true rfl, Nat.le_of_ble_eq_true rfl⟩) rfl hl.1 (Nat.le_of_ble_eq_true rfl) dJx4a65c_init_da8c8_1 (Nat.le_of_ble_eq_true rfl) (Nat.le_of_ble_eq_true rfl)) hS hnt hlk (fun _ _ h _ => h.elim) (Nat.le_of_ble_eq_true rfl) (Nat.le_of_ble_eq_true rfl) (fun H1 locs1 hP hz1 hS => ?_)
  refine W.widen (k := 0) (n := 0) (Nat.le_refl _) (Nat.le_refl _) ?_
  obtain ⟨ho, ez, eq9⟩ := hP
  refine lv_aload_n hx hb dJx4a65c_init_da8c8_4 rfl (lv_at hl 0 rfl) ?_
  refine va_gets hx hb hev.2.1.1 hS hown (hts (.fieldLink RJx4a65c 39 "java/util/ArrayList" "DEFAULTCAPACITY_EMPTY_ELEMENTDATA" "[Ljava/lang/Object;") (by decide +kernel)) (fun _ h9 => h9) dJx4a65c_init_da8c8_5 ?_
  refine x_put (C := RJx4a65c) (TT := TJx4a65c) (N := 3) (ci := 2) (v := .ref dE) (ty := tyJx4a65c 1) hx hb hts in_Jx4a65c_init_da8c8_RJx4a65c tyJx4a65c tyJx4a65c_ok nmJx4a65c hown hK hS (ho) hAa rfl 1 (by decide) (hts (.fieldLink RJx4a65c 9 "java/util/ArrayList" "elementData" "[Ljava/lang/Object;") (by decide +kernel)) (fun _ h9 => h9) rfl (tyJx4a65c_ok 1 (by decide)) rfl rfl (Nat.le_of_ble_eq_true rfl) dJx4a65c_init_da8c8_8 (fun H2 locs2 ho2 hz2 hq2 hS => ?_)
  have ho2 : oc D H2 a 2 [.int (nI 0), .ref dE, .int z9] := ho2
  exact r_v hx hb hrt9 hlk hS (Nat.le_of_ble_eq_true rfl) (Nat.le_of_ble_eq_true rfl) dJx4a65c_init_da8c8_11 (⟨ho2, by rw [hz2, ez], fun q9 h9 => by rw [hq2 q9 h9, eq9 q9 h9]⟩)
set_option maxRecDepth 100000 in
theorem in_Jx4a65c_size_8abf5_RJx4a65c : ∀ w ∈ wsJx4a65c0, w ∈ wsJx4a65c_size_8abf5 := by decide +kernel
set_option maxHeartbeats 4000000 in
set_option maxRecDepth 100000 in
theorem c_Jx4a65c_size_8abf5 (l : Launch) {D : va_G} {T : Nat → ClassId} {dE mi : Nat} {A : Nat → Prop} {H : Heap} {a arr cap n : Nat} {f : Nat → Nat} (hL : AL D T dE H a arr cap n f) : vx_Met l yJx4a65c_size_8abf5 wsJx4a65c_size_8abf5 (rmL 0 0 0) (PcE D T dE mi A H [.ref a]) (QI A (fun r H1 => H1 = H ∧ r = nI n)) (XX A (XN)) 0 0 A := by
  refine entry (cc := cJx4a65c_size_8abf5) (maxL := 1) (ret := (some .int)) (by decide) rfl (Nat.le_of_ble_eq_true rfl) ?_
  intro p e s m args below meth c hx hb hrt9 hml hown hts hlk hnt hnm hev hS ls hl
  have hown : s.vm.findClass RJx4a65c = some m.cls := hown
  have hK := hev.1
  have hl : lv_has ls 1 [(0, .ref a)] := hl
  obtain ⟨hne, hnc, hcap, hc0, mo, fe, ho, hg, hfe⟩ := id hL
  refine lv_aload_n hx hb dJx4a65c_size_8abf5_0 rfl (lv_at hl 0 rfl) ?_
  refine x_get (C := RJx4a65c) (TT := TJx4a65c) (N := 3) (ci := 2) (v := .int (nI n)) hx hb hts in_Jx4a65c_size_8abf5_RJx4a65c hown hK (ho) rfl 2 (by decide) (hts (.fieldLink RJx4a65c 48 "java/util/ArrayList" "size" "I") (by decide +kernel)) (fun _ h9 => h9) rfl dJx4a65c_size_8abf5_1 ?_
  exact r_i hx hb hrt9 hlk hS (Nat.le_of_ble_eq_true rfl) (Nat.le_of_ble_eq_true rfl) dJx4a65c_size_8abf5_4 (⟨rfl, rfl⟩)
set_option maxHeartbeats 4000000 in
set_option maxRecDepth 100000 in
theorem c_J3_checkIndex_8e157 (l : Launch) {D : va_G} {T : Nat → ClassId} {dE mi : Nat} {A : Nat → Prop} {H : Heap} {i n : Nat} (hi : i < n) (hn : n < 2 ^ 31) : vx_Met l yJ3_checkIndex_8e157 wsJ3_checkIndex_8e157 (rmL 0 0 0) (PcE D T dE mi A H [.int (nI i), .int (nI n), .null]) (QI A (fun r H1 => H1 = H ∧ r = nI i)) (XX A (XN)) 0 0 A := by
  refine entry (cc := cJ3_checkIndex_8e157) (maxL := 3) (ret := (some .int)) (by decide) rfl (Nat.le_of_ble_eq_true rfl) ?_
  intro p e s m args below meth c hx hb hrt9 hml hown hts hlk hnt hnm hev hS ls hl
  have hown : s.vm.findClass RJ3 = some m.cls := hown
  have hK := hev.1
  have hl : lv_has ls 3 [(0, .int (nI i)), (1, .int (nI n)), (2, .null)] := hl
  refine lv_iload_n hx hb dJ3_checkIndex_8e157_0 rfl (lv_at hl 0 rfl) ?_
  refine y_if_lt hx hb (by omega) (tgt := 9) dJ3_checkIndex_8e157_1 (by decide) (fun c1 => ?_) (fun c1 => ?_)
  · exact absurd c1 id
  · refine lv_iload_n hx hb dJ3_checkIndex_8e157_4 rfl (lv_at hl 0 rfl) ?_
    refine lv_iload_n hx hb dJ3_checkIndex_8e157_5 rfl (lv_at hl 1 rfl) ?_
    refine y_icmp_lt hx hb (by omega) (by omega) (tgt := 16) dJ3_checkIndex_8e157_6 (by decide) (fun c6 => ?_) (fun c6 => ?_)
    · refine lv_iload_n hx hb dJ3_checkIndex_8e157_16 rfl (lv_at hl 0 rfl) ?_
      exact r_i hx hb hrt9 hlk hS (Nat.le_of_ble_eq_true rfl) (Nat.le_of_ble_eq_true rfl) dJ3_checkIndex_8e157_17 (⟨rfl, rfl⟩)
    · exact absurd hi (by omega)
set_option maxHeartbeats 4000000 in
set_option maxRecDepth 100000 in
theorem c_J15_checkIndex_7cf53 (l : Launch) {D : va_G} {T : Nat → ClassId} {dE mi : Nat} {A : Nat → Prop} {H : Heap} {i n : Nat} (hi : i < n) (hn : n < 2 ^ 31) : vx_Met l yJ15_checkIndex_7cf53 wsJ15_checkIndex_7cf53 (rmL 1 0 0) (PcE D T dE mi A H [.int (nI i), .int (nI n)]) (QI A (fun r H1 => H1 = H ∧ r = nI i)) (XX A (XN)) 0 0 A := by
  refine entry (cc := cJ15_checkIndex_7cf53) (maxL := 2) (ret := (some .int)) (by decide) rfl (Nat.le_of_ble_eq_true rfl) ?_
  intro p e s m args below meth c hx hb hrt9 hml hown hts hlk hnt hnm hev hS ls hl
  have hown : s.vm.findClass RJ15 = some m.cls := hown
  have hK := hev.1
  have hl : lv_has ls 2 [(0, .int (nI i)), (1, .int (nI n))] := hl
  refine lv_iload_n hx hb dJ15_checkIndex_7cf53_0 rfl (lv_at hl 0 rfl) ?_
  refine lv_iload_n hx hb dJ15_checkIndex_7cf53_1 rfl (lv_at hl 1 rfl) ?_
  refine lv_null hx hb dJ15_checkIndex_7cf53_2 ?_
  refine k_ip (k_S (As := [.int (nI i), .int (nI n), .null]) (rest := []) ⟨hx, hb, hml, hown, hts⟩ hev hS (c_J3_checkIndex_8e157 l hi hn) (va_cwS 3 hts gJ15_checkIndex_7cf53_J3_checkIndex_8e157 rfl rfl rfl (by decide +kernel) ⟨Nat.le_of_ble_eq_true rfl, Nat.le_of_ble_eq_true rfl⟩) rfl hl.1 (Nat.le_of_ble_eq_true rfl) dJ15_checkIndex_7cf53_3 (Nat.le_of_ble_eq_true rfl) (Nat.le_of_ble_eq_true rfl)) hS hnt hlk (fun _ _ h _ => h.elim) (Nat.le_of_ble_eq_true rfl) (Nat.le_of_ble_eq_true rfl) (fun rq1_ H1 locs1 hP hz1 hS => ?_)
  refine W.widen (k := 0) (n := 0) (Nat.le_refl _) (Nat.le_refl _) ?_
  obtain ⟨eH, er⟩ := hP
  exact r_i hx hb hrt9 hlk hS (Nat.le_of_ble_eq_true rfl) (Nat.le_of_ble_eq_true rfl) dJ15_checkIndex_7cf53_6 (⟨eH, er⟩)
set_option maxRecDepth 100000 in
theorem in_Jx4a65c_elementData_915e3_RJx4a65c : ∀ w ∈ wsJx4a65c0, w ∈ wsJx4a65c_elementData_915e3 := by decide +kernel
set_option maxHeartbeats 4000000 in
set_option maxRecDepth 100000 in
theorem c_Jx4a65c_elementData_915e3 (l : Launch) {D : va_G} {T : Nat → ClassId} {dE mi : Nat} {A : Nat → Prop} {H : Heap} {a arr cap n : Nat} {f : Nat → Nat} (hL : AL D T dE H a arr cap n f) {i : Nat} (hi : i < n) : vx_Met l yJx4a65c_elementData_915e3 wsJx4a65c_elementData_915e3 (rmL 0 0 0) (PcE D T dE mi A H [.ref a, .int (nI i)]) (QQ A (fun r H1 => H1 = H ∧ r = some (f i))) (XX A (XN)) 0 0 A := by
  refine entry (cc := cJx4a65c_elementData_915e3) (maxL := 2) (ret := (some (.object "java/lang/Object"))) (by decide) rfl (Nat.le_of_ble_eq_true rfl) ?_
  intro p e s m args below meth c hx hb hrt9 hml hown hts hlk hnt hnm hev hS ls hl
  have hown : s.vm.findClass RJx4a65c = some m.cls := hown
  have hK := hev.1
  have hl : lv_has ls 2 [(0, .ref a), (1, .int (nI i))] := hl
  obtain ⟨hne, hnc, hcap, hc0, mo, fe, ho, hg, hfe⟩ := id hL
  refine lv_aload_n hx hb dJx4a65c_elementData_915e3_0 rfl (lv_at hl 0 rfl) ?_
  refine x_get (C := RJx4a65c) (TT := TJx4a65c) (N := 3) (ci := 2) (v := .ref arr) hx hb hts in_Jx4a65c_elementData_915e3_RJx4a65c hown hK (ho) rfl 1 (by decide) (hts (.fieldLink RJx4a65c 9 "java/util/ArrayList" "elementData" "[Ljava/lang/Object;") (by decide +kernel)) (fun _ h9 => h9) rfl dJx4a65c_elementData_915e3_1 ?_
  refine lv_iload_n hx hb dJx4a65c_elementData_915e3_4 rfl (lv_at hl 1 rfl) ?_
  refine x_oald hx hb hK (hg.1 (by omega)) (i := i) (by omega) (by omega) dJx4a65c_elementData_915e3_5 ?_
  exact r_q (r := (fe i)) hx hb hrt9 (Or.inl ⟨_, rfl⟩) hlk hS (Nat.le_of_ble_eq_true rfl) (Nat.le_of_ble_eq_true rfl) dJx4a65c_elementData_915e3_6 (⟨rfl, hfe i hi⟩)
set_option maxRecDepth 100000 in
theorem in_Jx4a65c_get_915e3_RJx4a65c : ∀ w ∈ wsJx4a65c0, w ∈ wsJx4a65c_get_915e3 := by decide +kernel
set_option maxHeartbeats 4000000 in
set_option maxRecDepth 100000 in
theorem c_Jx4a65c_get_915e3 (l : Launch) {D : va_G} {T : Nat → ClassId} {dE mi : Nat} {A : Nat → Prop} {H : Heap} {a arr cap n : Nat} {f : Nat → Nat} (hL : AL D T dE H a arr cap n f) {i : Nat} (hi : i < n) : vx_Met l yJx4a65c_get_915e3 wsJx4a65c_get_915e3 (rmL 2 0 0) (PcE D T dE mi A H [.ref a, .int (nI i)]) (QQ A (fun r H1 => H1 = H ∧ r = some (f i))) (XX A (XN)) 0 0 A := by
  refine entry (cc := cJx4a65c_get_915e3) (maxL := 2) (ret := (some (.object "java/lang/Object"))) (by decide) rfl (Nat.le_of_ble_eq_true rfl) ?_
  intro p e s m args below meth c hx hb hrt9 hml hown hts hlk hnt hnm hev hS ls hl
  have hown : s.vm.findClass RJx4a65c = some m.cls := hown
  have hK := hev.1
  have hl : lv_has ls 2 [(0, .ref a), (1, .int (nI i))] := hl
  obtain ⟨hne, hnc, hcap, hc0, mo, fe, ho, hg, hfe⟩ := id hL
  refine lv_iload_n hx hb dJx4a65c_get_915e3_0 rfl (lv_at hl 1 rfl) ?_
  refine lv_aload_n hx hb dJx4a65c_get_915e3_1 rfl (lv_at hl 0 rfl) ?_
  refine x_get (C := RJx4a65c) (TT := TJx4a65c) (N := 3) (ci := 2) (v := .int (nI n)) hx hb hts in_Jx4a65c_get_915e3_RJx4a65c hown hK (ho) rfl 2 (by decide) (hts (.fieldLink RJx4a65c 48 "java/util/ArrayList" "size" "I") (by decide +kernel)) (fun _ h9 => h9) rfl dJx4a65c_get_915e3_2 ?_
  refine k_ip (k_S (As := [.int (nI i), .int (nI n)]) (rest := []) ⟨hx, hb, hml, hown, hts⟩ hev hS (c_J15_checkIndex_7cf53 l hi (by omega)) (va_cwS 2 hts gJx4a65c_get_915e3_J15_checkIndex_7cf53 rfl rfl rfl (by decide +kernel) ⟨Nat.le_of_ble_eq_true rfl, Nat.le_of_ble_eq_true rfl⟩) rfl hl.1 (Nat.le_of_ble_eq_true rfl) dJx4a65c_get_915e3_5 (Nat.le_of_ble_eq_true rfl) (Nat.le_of_ble_eq_true rfl)) hS hnt hlk (fun _ _ h _ => h.elim) (Nat.le_of_ble_eq_true rfl) (Nat.le_of_ble_eq_true rfl) (fun rq1_ H1 locs1 hP hz1 hS => ?_)
  refine W.widen (k := 0) (n := 0) (Nat.le_refl _) (Nat.le_refl _) ?_
  obtain ⟨eH, er⟩ := hP
  have hL : AL D T dE H1 a arr cap n f := by rw [eH]; exact hL
  refine lv_pop hx hb dJx4a65c_get_915e3_8 rfl ?_
  refine lv_aload_n hx hb dJx4a65c_get_915e3_9 rfl (lv_at hl 0 rfl) ?_
  refine lv_iload_n hx hb dJx4a65c_get_915e3_10 rfl (lv_at hl 1 rfl) ?_
  refine k_qp (k_V (As := [.int (nI i)]) (rest := []) ⟨hx, hb, hml, hown, hts⟩ hev hS (c_Jx4a65c_elementData_915e3 l hL hi) (cwV 1 hts gJx4a65c_get_915e3_Jx4a65c_elementData_915e3 rfl rfl rfl (by decide +kernel) ⟨Nat.le_of_ble_eq_true rfl, Nat.le_of_ble_eq_true rfl⟩) (x_recv hK ((hL.rec).choose_spec) rfl) rfl hl.1 (Nat.le_of_ble_eq_true rfl) dJx4a65c_get_915e3_11 (Nat.le_of_ble_eq_true rfl) (Nat.le_of_ble_eq_true rfl)) hS hnt hlk (fun _ _ h _ => h.elim) (Nat.le_of_ble_eq_true rfl) (Nat.le_of_ble_eq_true rfl) (fun rq2_ H2 locs2 hP hz2 hS => ?_)
  refine W.widen (k := 0) (n := 0) (Nat.le_refl _) (Nat.le_refl _) ?_
  obtain ⟨eH2, er2⟩ := hP
  exact r_q (r := rq2_) hx hb hrt9 (Or.inl ⟨_, rfl⟩) hlk hS (Nat.le_of_ble_eq_true rfl) (Nat.le_of_ble_eq_true rfl) dJx4a65c_get_915e3_14 (⟨by rw [eH2, eH], er2⟩)

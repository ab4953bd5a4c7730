set_option maxRecDepth 100000 in
theorem in_X1_init_RX1 : ∀ w ∈ wsX10, w ∈ wsX1_init := by decide +kernel
set_option maxHeartbeats 4000000 in
set_option maxRecDepth 100000 in
theorem c_X1_init (l : Launch) {D : va_G} {T : Nat → ClassId} {dE mi : Nat} {A : Nat → Prop} {H : Heap} {a : Nat} {u0 u1 u2 u3 u4 u5 : Value} (ho : oc D H a 4 [u0, u1, u2, u3, u4, u5]) (hAa : A a) (x : Int32) : vx_Met l yX1_init wsX1_init (rmL 2 2 12) (PcE D T dE mi A H [.ref a, .int x]) (QV A (fun H1 => oc D H1 a 4 [.ref H.size, .ref (H.size + 1), .int x, .int (bI false), .null, .int (nI 0)] ∧ ic (T 0) H1 H.size 6 (fun _ => 0) ∧ ic (T 0) H1 (H.size + 1) 6 (fun _ => 0) ∧ H1.size = H.size + 2 ∧ ∀ q : Nat, q < H.size → q ≠ a → H1[q]? = H[q]?)) (XX A (XN)) 2 12 A := by
  refine entry (cc := cX1_init) (maxL := 2) (ret := none) (by decide) rfl (Nat.le_of_ble_eq_true rfl) ?_
  intro p e s m args below meth c hx hb hrt9 hml hown hts hlk hnt hnm hev hS ls hl
  have hown : s.vm.findClass RX1 = some m.cls := hown
  have hK := hev.1
  have hl : lv_has ls 2 [(0, .ref a), (1, .int x)] := hl
  have hlt := ho.lt
  refine lv_aload_n hx hb dX1_init_0 rfl (lv_at hl 0 rfl) ?_
  refine W.objInit hx hb hown (hts (.methodLink RX1 3 objectInit) (by decide +kernel)) (hts (.instanceMethod objectInit) (by decide +kernel)) (hts (.code objectInit ⟨#[0xb1]⟩ 1 none) (by decide +kernel)) rfl (by rw [hml]; exact hl.1) rfl dX1_init_1 (Nat.le_of_ble_eq_true rfl) (Nat.le_of_ble_eq_true rfl) ?_
  refine W.eq (g2 := F0 m 4 ls []) rfl ?_
  refine lv_aload_n hx hb dX1_init_4 rfl (lv_at hl 0 rfl) ?_
  refine lv_bipush (v := nI 6) hx hb dX1_init_5 (by decide) ?_
  refine x_newi hx hb (hts (.arrayClass .int) (by decide +kernel)) hK hS (n := 6) (by decide) (Nat.le_of_ble_eq_true rfl) (Nat.le_of_ble_eq_true rfl) dX1_init_7 (fun H1 hg1 hz1 hq1 hS => ?_)
  have g1 := hg1
  have ho := ho.kept (hq1 _ ho.lt)
  have fz := hz1
  have fq : ∀ q9 : Nat, q9 < H.size → q9 ≠ a → H1[q9]? = H[q9]? := fun q9 h9 _ => hq1 q9 h9
  refine x_putF (C := RX1) (TT := TX1) (N := 6) (ci := 4) (v := .ref H.size) (ty := tyX1 0) hx hb hts in_X1_init_RX1 tyX1 tyX1_ok nmX1 hown hK hS (ho) hAa rfl 0 (by decide) (hts (.fieldLink RX1 9 "Archeloft$Entity" "values" "[I") (by decide +kernel)) (fun _ h9 => h9) rfl hnm rfl (tyX1_ok 0 (by decide)) rfl rfl (Nat.le_of_ble_eq_true rfl) dX1_init_9 (fun H2 locs2 ho2 hz2 hq2 hS => ?_)
  have ho2 : oc D H2 a 4 [.ref H.size, u1, u2, u3, u4, u5] := ho2
  have ho := ho2
  have g1 := g1.kept (hq2 _ (by omega))
  have fq : ∀ q9 : Nat, q9 < H.size → q9 ≠ a → H2[q9]? = H[q9]? := fun q9 h9 h8 => (hq2 q9 h8).trans (fq q9 h9 h8)
  have fz := hz2.trans fz
  refine lv_aload_n hx hb dX1_init_12 rfl (lv_at hl 0 rfl) ?_
  refine lv_bipush (v := nI 6) hx hb dX1_init_13 (by decide) ?_
  refine x_newi hx hb (hts (.arrayClass .int) (by decide +kernel)) hK hS (n := 6) (by decide) (Nat.le_of_ble_eq_true rfl) (Nat.le_of_ble_eq_true rfl) dX1_init_15 (fun H3 hg3 hz3 hq3 hS => ?_)
  have g2 : ic (T 0) H3 (H.size + 1) 6 (fun _ => 0) := by rw [← fz]; exact hg3
  have g1 := g1.kept (hq3 _ g1.lt)
  have ho := ho.kept (hq3 _ ho.lt)
  refine x_tov (y := .ref (H.size + 1)) (by rw [fz]) ?_
  have fq : ∀ q9 : Nat, q9 < H.size → q9 ≠ a → H3[q9]? = H[q9]? := fun q9 h9 h8 => (hq3 q9 (by omega)).trans (fq q9 h9 h8)
  have fz : H3.size = H.size + 2 := by rw [hz3, fz]
  refine x_putF (C := RX1) (TT := TX1) (N := 6) (ci := 4) (v := .ref (H.size + 1)) (ty := tyX1 1) hx hb hts in_X1_init_RX1 tyX1 tyX1_ok nmX1 hown hK hS (ho) hAa rfl 1 (by decide) (hts (.fieldLink RX1 15 "Archeloft$Entity" "marks" "[I") (by decide +kernel)) (fun _ h9 => h9) rfl hnm rfl (tyX1_ok 1 (by decide)) rfl rfl (Nat.le_of_ble_eq_true rfl) dX1_init_17 (fun H4 locs4 ho4 hz4 hq4 hS => ?_)
  have ho4 : oc D H4 a 4 [.ref H.size, .ref (H.size + 1), u2, u3, u4, u5] := ho4
  have ho := ho4
  have g1 := g1.kept (hq4 _ (by omega))
  have g2 := g2.kept (hq4 _ (by omega))
  have fq : ∀ q9 : Nat, q9 < H.size → q9 ≠ a → H4[q9]? = H[q9]? := fun q9 h9 h8 => (hq4 q9 h8).trans (fq q9 h9 h8)
  have fz := hz4.trans fz
  refine lv_aload_n hx hb dX1_init_20 rfl (lv_at hl 0 rfl) ?_
  refine lv_iconst (v := nI 0) hx hb dX1_init_21 (by decide) ?_
  refine x_put (C := RX1) (TT := TX1) (N := 6) (ci := 4) (v := .int (nI 0)) (ty := tyX1 3) hx hb hts in_X1_init_RX1 tyX1 tyX1_ok nmX1 hown hK hS (ho) hAa rfl 3 (by decide) (hts (.fieldLink RX1 18 "Archeloft$Entity" "there" "Z") (by decide +kernel)) (fun _ h9 => h9) rfl (tyX1_ok 3 (by decide)) rfl rfl (Nat.le_of_ble_eq_true rfl) dX1_init_22 (fun H5 locs5 ho5 hz5 hq5 hS => ?_)
  have ho5 : oc D H5 a 4 [.ref H.size, .ref (H.size + 1), u2, .int (nI 0), u4, u5] := ho5
  have ho := ho5
  have g1 := g1.kept (hq5 _ (by omega))
  have g2 := g2.kept (hq5 _ (by omega))
  have fq : ∀ q9 : Nat, q9 < H.size → q9 ≠ a → H5[q9]? = H[q9]? := fun q9 h9 h8 => (hq5 q9 h8).trans (fq q9 h9 h8)
  have fz := hz5.trans fz
  refine lv_aload_n hx hb dX1_init_25 rfl (lv_at hl 0 rfl) ?_
  refine lv_null hx hb dX1_init_26 ?_
  refine x_put (C := RX1) (TT := TX1) (N := 6) (ci := 4) (v := .null) (ty := tyX1 4) hx hb hts in_X1_init_RX1 tyX1 tyX1_ok nmX1 hown hK hS (ho) hAa rfl 4 (by decide) (hts (.fieldLink RX1 22 "Archeloft$Entity" "parent" "LArcheloft$Entity;") (by decide +kernel)) (fun _ h9 => h9) rfl (tyX1_ok 4 (by decide)) rfl rfl (Nat.le_of_ble_eq_true rfl) dX1_init_27 (fun H6 locs6 ho6 hz6 hq6 hS => ?_)
  have ho6 : oc D H6 a 4 [.ref H.size, .ref (H.size + 1), u2, .int (nI 0), .null, u5] := ho6
  have ho := ho6
  have g1 := g1.kept (hq6 _ (by omega))
  have g2 := g2.kept (hq6 _ (by omega))
  have fq : ∀ q9 : Nat, q9 < H.size → q9 ≠ a → H6[q9]? = H[q9]? := fun q9 h9 h8 => (hq6 q9 h8).trans (fq q9 h9 h8)
  have fz := hz6.trans fz
  refine lv_aload_n hx hb dX1_init_30 rfl (lv_at hl 0 rfl) ?_
  refine lv_iconst (v := nI 0) hx hb dX1_init_31 (by decide) ?_
  refine x_put (C := RX1) (TT := TX1) (N := 6) (ci := 4) (v := .int (nI 0)) (ty := tyX1 5) hx hb hts in_X1_init_RX1 tyX1 tyX1_ok nmX1 hown hK hS (ho) hAa rfl 5 (by decide) (hts (.fieldLink RX1 26 "Archeloft$Entity" "kindSet" "I") (by decide +kernel)) (fun _ h9 => h9) rfl (tyX1_ok 5 (by decide)) rfl rfl (Nat.le_of_ble_eq_true rfl) dX1_init_32 (fun H7 locs7 ho7 hz7 hq7 hS => ?_)
  have ho7 : oc D H7 a 4 [.ref H.size, .ref (H.size + 1), u2, .int (nI 0), .null, .int (nI 0)] := ho7
  have ho := ho7
  have g1 := g1.kept (hq7 _ (by omega))
  have g2 := g2.kept (hq7 _ (by omega))
  have fq : ∀ q9 : Nat, q9 < H.size → q9 ≠ a → H7[q9]? = H[q9]? := fun q9 h9 h8 => (hq7 q9 h8).trans (fq q9 h9 h8)
  have fz := hz7.trans fz
  refine lv_aload_n hx hb dX1_init_35 rfl (lv_at hl 0 rfl) ?_
  refine lv_iload_n hx hb dX1_init_36 rfl (lv_at hl 1 rfl) ?_
  refine x_put (C := RX1) (TT := TX1) (N := 6) (ci := 4) (v := .int x) (ty := tyX1 2) hx hb hts in_X1_init_RX1 tyX1 tyX1_ok nmX1 hown hK hS (ho) hAa rfl 2 (by decide) (hts (.fieldLink RX1 30 "Archeloft$Entity" "handle" "I") (by decide +kernel)) (fun _ h9 => h9) rfl (tyX1_ok 2 (by decide)) rfl rfl (Nat.le_of_ble_eq_true rfl) dX1_init_37 (fun H8 locs8 ho8 hz8 hq8 hS => ?_)
  have ho8 : oc D H8 a 4 [.ref H.size, .ref (H.size + 1), .int x, .int (nI 0), .null, .int (nI 0)] := ho8
  have ho := ho8
  have g1 := g1.kept (hq8 _ (by omega))
  have g2 := g2.kept (hq8 _ (by omega))
  have fq : ∀ q9 : Nat, q9 < H.size → q9 ≠ a → H8[q9]? = H[q9]? := fun q9 h9 h8 => (hq8 q9 h8).trans (fq q9 h9 h8)
  have fz := hz8.trans fz
  exact r_v hx hb hrt9 hlk hS (Nat.le_of_ble_eq_true rfl) (Nat.le_of_ble_eq_true rfl) dX1_init_40 (⟨ho, g1, g2, fz, fq⟩)
theorem EV.dE {D : va_G} {T : Nat → ClassId} {dE mi : Nat} {A : Nat → Prop} {s : State} {H : Heap} {locs : List Loc} (h : EV D T dE mi A s) (hS : va_S A s.heap H locs) : dE < H.size ∧ dE < s.heap.size ∧ ¬ A dE := by
  obtain ⟨cell, hc, -⟩ := h.2.1.2.1
  have h1 : dE < s.heap.size := (Array.getElem?_eq_some_iff.mp hc).1
  exact ⟨Nat.lt_of_lt_of_le h1 hS.1, h1, h.2.1.2.2⟩
theorem AL.new {D : va_G} {T : Nat → ClassId} {dE a : Nat} {H : Heap} {mo : Int32} (f : Nat → Nat) (ho : oc D H a 2 [.int mo, .ref dE, .int (nI 0)]) (hd : dE < H.size) (hne : dE ≠ a) : AL D T dE H a dE 0 0 f := ⟨hne, Nat.le_refl _, by decide, fun _ => rfl, mo, fun _ => none, ho, ⟨fun z => absurd z (Nat.lt_irrefl 0), hd⟩, fun i hi => absurd hi (Nat.not_lt_zero i)⟩
set_option maxRecDepth 100000 in
theorem in_X3_init_RJx4a65c : ∀ w ∈ wsJx4a65c0, w ∈ wsX3_init := by decide +kernel
set_option maxRecDepth 100000 in
theorem in_X3_init_RX3 : ∀ w ∈ wsX30, w ∈ wsX3_init := by decide +kernel
set_option maxHeartbeats 4000000 in
set_option maxRecDepth 100000 in
theorem c_X3_init (l : Launch) {D : va_G} {T : Nat → ClassId} {dE mi : Nat} {A : Nat → Prop} {H : Heap} {a : Nat} {u0 u1 : Value} (ho : oc D H a 6 [u0, u1]) (hAa : A a) (hAn : ∀ q : Nat, H.size ≤ q → A q) (x : Int32) : vx_Met l yX3_init wsX3_init (rmL 5 1 3) (PcE D T dE mi A H [.ref a, .int x]) (QV A (fun H1 => oc D H1 a 6 [.int x, .ref H.size] ∧ (∀ f, AL D T dE H1 H.size dE 0 0 f) ∧ H1.size = H.size + 1 ∧ ∀ q : Nat, q < H.size → q ≠ a → H1[q]? = H[q]?)) (XX A (XN)) 1 3 A := by
  refine entry (cc := cX3_init) (maxL := 2) (ret := none) (by decide) rfl (Nat.le_of_ble_eq_true rfl) ?_
  intro p e s m args below meth c hx hb hrt9 hml hown hts hlk hnt hnm hev hS ls hl
  have hown : s.vm.findClass RX3 = some m.cls := hown
  have hK := hev.1
  have hl : lv_has ls 2 [(0, .ref a), (1, .int x)] := hl
  have hlt := ho.lt
  have hs0 := hS.1
  refine lv_aload_n hx hb dX3_init_0 rfl (lv_at hl 0 rfl) ?_
  refine W.objInit hx hb hown (hts (.methodLink RX3 1 objectInit) (by decide +kernel)) (hts (.instanceMethod objectInit) (by decide +kernel)) (hts (.code objectInit ⟨#[0xb1]⟩ 1 none) (by decide +kernel)) rfl (by rw [hml]; exact hl.1) rfl dX3_init_1 (Nat.le_of_ble_eq_true rfl) (Nat.le_of_ble_eq_true rfl) ?_
  refine W.eq (g2 := F0 m 4 ls []) rfl ?_
  refine lv_aload_n hx hb dX3_init_4 rfl (lv_at hl 0 rfl) ?_
  refine x_new (C := RJx4a65c) (TT := TJx4a65c) (N := 3) (ci := 2) (fs := [.int 0, .null, .int 0]) hx hb hts in_X3_init_RJx4a65c tyJx4a65c tyJx4a65c_ok hown (hts (.classLink RX3 7 RJx4a65c) (by decide +kernel)) (hts (.instantiable RJx4a65c 3) (by decide +kernel)) (hts (.initialized RJx4a65c) (by decide +kernel)) hK hS rfl (by decide) (Nat.le_of_ble_eq_true rfl) (Nat.le_of_ble_eq_true rfl) dX3_init_5 (fun H1 ho1 hz1 hq1 hS => ?_)
  have ho := ho.kept (hq1 _ ho.lt)
  have fz := hz1
  have hl9 := ho1
  refine lv_dup hx hb dX3_init_8 rfl ?_
  refine k_vp (k_I (As := []) (rest := [.ref H.size, .ref a]) ⟨hx, hb, hml, hown, hts⟩ hev hS (c_Jx4a65c_init_da8c8 l hl9 (hAn _ (Nat.le_refl _))) (cwI 0 hts gX3_init_Jx4a65c_init_da8c8 rfl rfl rfl (hts (.initialized RJx4a65c) (by decide +kernel)) (hts (.methodLink RX3 9 yJx4a65c_init_da8c8) (by decide +kernel)) (hts (.instanceMethod yJx4a65c_init_da8c8) (by decide +kernel)) rfl (by decide +kernel) ⟨Nat.le_of_ble_eq_true rfl, Nat.le_of_ble_eq_true rfl⟩) rfl hl.1 (Nat.le_of_ble_eq_true rfl) dX3_init_9 (Nat.le_of_ble_eq_true rfl) (Nat.le_of_ble_eq_true rfl)) hS hnt hlk (fun _ _ h _ => h.elim) (Nat.le_of_ble_eq_true rfl) (Nat.le_of_ble_eq_true rfl) (fun H2 locs2 hP hz2 hS => ?_)
  refine W.widen (k := 0 + 1) (n := 0 + 3) (Nat.le_refl _) (Nat.le_refl _) ?_
  obtain ⟨hl9, ez9, eq9⟩ := hP
  have ho := ho.kept (eq9 _ (by omega))
  have fz := ez9.trans fz
  have fq : ∀ q9 : Nat, q9 < H.size → q9 ≠ a → H2[q9]? = H[q9]? := fun q9 h9 _ => (eq9 q9 (by omega)).trans (hq1 q9 h9)
  refine x_putF (C := RX3) (TT := TX3) (N := 2) (ci := 6) (v := .ref H.size) (ty := tyX3 1) hx hb hts in_X3_init_RX3 tyX3 tyX3_ok nmX3 hown hK hS (ho) hAa rfl 1 (by decide) (hts (.fieldLink RX3 10 "Archeloft$Row" "members" "Ljava/util/ArrayList;") (by decide +kernel)) (fun _ h9 => h9) rfl hnm rfl (tyX3_ok 1 (by decide)) rfl rfl (Nat.le_of_ble_eq_true rfl) dX3_init_12 (fun H3 locs3 ho3 hz3 hq3 hS => ?_)
  have ho3 : oc D H3 a 6 [u0, .ref H.size] := ho3
  have ho := ho3
  have hl9 := hl9.kept (hq3 _ (by omega))
  have fq : ∀ q9 : Nat, q9 < H.size → q9 ≠ a → H3[q9]? = H[q9]? := fun q9 h9 h8 => (hq3 q9 h8).trans (fq q9 h9 h8)
  have fz := hz3.trans fz
  refine lv_aload_n hx hb dX3_init_15 rfl (lv_at hl 0 rfl) ?_
  refine lv_iload_n hx hb dX3_init_16 rfl (lv_at hl 1 rfl) ?_
  refine x_putF (C := RX3) (TT := TX3) (N := 2) (ci := 6) (v := .int x) (ty := tyX3 0) hx hb hts in_X3_init_RX3 tyX3 tyX3_ok nmX3 hown hK hS (ho) hAa rfl 0 (by decide) (hts (.fieldLink RX3 16 "Archeloft$Row" "kindSet" "I") (by decide +kernel)) (fun _ h9 => h9) rfl hnm rfl (tyX3_ok 0 (by decide)) rfl rfl (Nat.le_of_ble_eq_true rfl) dX3_init_17 (fun H4 locs4 ho4 hz4 hq4 hS => ?_)
  have ho4 : oc D H4 a 6 [.int x, .ref H.size] := ho4
  have ho := ho4
  have hl9 := hl9.kept (hq4 _ (by omega))
  have fq : ∀ q9 : Nat, q9 < H.size → q9 ≠ a → H4[q9]? = H[q9]? := fun q9 h9 h8 => (hq4 q9 h8).trans (fq q9 h9 h8)
  have fz := hz4.trans fz
  exact r_v hx hb hrt9 hlk hS (Nat.le_of_ble_eq_true rfl) (Nat.le_of_ble_eq_true rfl) dX3_init_20 (by
        obtain ⟨d1, d2, d3⟩ := hev.dE hS
        exact ⟨ho, fun f => AL.new f hl9 d1 (by omega), fz, fq⟩)
set_option maxRecDepth 100000 in
theorem in_X5_init_RJx4a65c : ∀ w ∈ wsJx4a65c0, w ∈ wsX5_init := by decide +kernel
set_option maxRecDepth 100000 in
theorem in_X5_init_RX5 : ∀ w ∈ wsX50, w ∈ wsX5_init := by decide +kernel
set_option maxHeartbeats 4000000 in
set_option maxRecDepth 100000 in
theorem c_X5_init (l : Launch) {D : va_G} {T : Nat → ClassId} {dE mi : Nat} {A : Nat → Prop} {H : Heap} {a : Nat} {u0 u1 u2 : Value} (ho : oc D H a 8 [u0, u1, u2]) (hAa : A a) (hAn : ∀ q : Nat, H.size ≤ q → A q) (x : Nat) : vx_Met l yX5_init wsX5_init (rmL 5 1 3) (PcE D T dE mi A H [.ref a, .ref x]) (QV A (fun H1 => oc D H1 a 8 [.ref x, .ref H.size, .int (nI 0)] ∧ (∀ f, AL D T dE H1 H.size dE 0 0 f) ∧ H1.size = H.size + 1 ∧ ∀ q : Nat, q < H.size → q ≠ a → H1[q]? = H[q]?)) (XX A (XN)) 1 3 A := by
  refine entry (cc := cX5_init) (maxL := 2) (ret := none) (by decide) rfl (Nat.le_of_ble_eq_true rfl) ?_
  intro p e s m args below meth c hx hb hrt9 hml hown hts hlk hnt hnm hev hS ls hl
  have hown : s.vm.findClass RX5 = some m.cls := hown
  have hK := hev.1
  have hl : lv_has ls 2 [(0, .ref a), (1, .ref x)] := hl
  have hlt := ho.lt
  have hs0 := hS.1
  refine lv_aload_n hx hb dX5_init_0 rfl (lv_at hl 0 rfl) ?_
  refine W.objInit hx hb hown (hts (.methodLink RX5 1 objectInit) (by decide +kernel)) (hts (.instanceMethod objectInit) (by decide +kernel)) (hts (.code objectInit ⟨#[0xb1]⟩ 1 none) (by decide +kernel)) rfl (by rw [hml]; exact hl.1) rfl dX5_init_1 (Nat.le_of_ble_eq_true rfl) (Nat.le_of_ble_eq_true rfl) ?_
  refine W.eq (g2 := F0 m 4 ls []) rfl ?_
  refine lv_aload_n hx hb dX5_init_4 rfl (lv_at hl 0 rfl) ?_
  refine x_new (C := RJx4a65c) (TT := TJx4a65c) (N := 3) (ci := 2) (fs := [.int 0, .null, .int 0]) hx hb hts in_X5_init_RJx4a65c tyJx4a65c tyJx4a65c_ok hown (hts (.classLink RX5 7 RJx4a65c) (by decide +kernel)) (hts (.instantiable RJx4a65c 3) (by decide +kernel)) (hts (.initialized RJx4a65c) (by decide +kernel)) hK hS rfl (by decide) (Nat.le_of_ble_eq_true rfl) (Nat.le_of_ble_eq_true rfl) dX5_init_5 (fun H1 ho1 hz1 hq1 hS => ?_)
  have ho := ho.kept (hq1 _ ho.lt)
  have fz := hz1
  have hl9 := ho1
  refine lv_dup hx hb dX5_init_8 rfl ?_
  refine k_vp (k_I (As := []) (rest := [.ref H.size, .ref a]) ⟨hx, hb, hml, hown, hts⟩ hev hS (c_Jx4a65c_init_da8c8 l hl9 (hAn _ (Nat.le_refl _))) (cwI 0 hts gX5_init_Jx4a65c_init_da8c8 rfl rfl rfl (hts (.initialized RJx4a65c) (by decide +kernel)) (hts (.methodLink RX5 9 yJx4a65c_init_da8c8) (by decide +kernel)) (hts (.instanceMethod yJx4a65c_init_da8c8) (by decide +kernel)) rfl (by decide +kernel) ⟨Nat.le_of_ble_eq_true rfl, Nat.le_of_ble_eq_true rfl⟩) rfl hl.1 (Nat.le_of_ble_eq_true rfl) dX5_init_9 (Nat.le_of_ble_eq_true rfl) (Nat.le_of_ble_eq_true rfl)) hS hnt hlk (fun _ _ h _ => h.elim) (Nat.le_of_ble_eq_true rfl) (Nat.le_of_ble_eq_true rfl) (fun H2 locs2 hP hz2 hS => ?_)
  refine W.widen (k := 0 + 1) (n := 0 + 3) (Nat.le_refl _) (Nat.le_refl _) ?_
  obtain ⟨hl9, ez9, eq9⟩ := hP
  have ho := ho.kept (eq9 _ (by omega))
  have fz := ez9.trans fz
  have fq : ∀ q9 : Nat, q9 < H.size → q9 ≠ a → H2[q9]? = H[q9]? := fun q9 h9 _ => (eq9 q9 (by omega)).trans (hq1 q9 h9)
  refine x_putF (C := RX5) (TT := TX5) (N := 3) (ci := 8) (v := .ref H.size) (ty := tyX5 1) hx hb hts in_X5_init_RX5 tyX5 tyX5_ok nmX5 hown hK hS (ho) hAa rfl 1 (by decide) (hts (.fieldLink RX5 10 "Archeloft$Walk" "commands" "Ljava/util/ArrayList;") (by decide +kernel)) (fun _ h9 => h9) rfl hnm rfl (tyX5_ok 1 (by decide)) rfl rfl (Nat.le_of_ble_eq_true rfl) dX5_init_12 (fun H3 locs3 ho3 hz3 hq3 hS => ?_)
  have ho3 : oc D H3 a 8 [u0, .ref H.size, u2] := ho3
  have ho := ho3
  have hl9 := hl9.kept (hq3 _ (by omega))
  have fq : ∀ q9 : Nat, q9 < H.size → q9 ≠ a → H3[q9]? = H[q9]? := fun q9 h9 h8 => (hq3 q9 h8).trans (fq q9 h9 h8)
  have fz := hz3.trans fz
  refine lv_aload_n hx hb dX5_init_15 rfl (lv_at hl 0 rfl) ?_
  refine lv_iconst (v := nI 0) hx hb dX5_init_16 (by decide) ?_
  refine x_put (C := RX5) (TT := TX5) (N := 3) (ci := 8) (v := .int (nI 0)) (ty := tyX5 2) hx hb hts in_X5_init_RX5 tyX5 tyX5_ok nmX5 hown hK hS (ho) hAa rfl 2 (by decide) (hts (.fieldLink RX5 16 "Archeloft$Walk" "told" "I") (by decide +kernel)) (fun _ h9 => h9) rfl (tyX5_ok 2 (by decide)) rfl rfl (Nat.le_of_ble_eq_true rfl) dX5_init_17 (fun H4 locs4 ho4 hz4 hq4 hS => ?_)
  have ho4 : oc D H4 a 8 [u0, .ref H.size, .int (nI 0)] := ho4
  have ho := ho4
  have hl9 := hl9.kept (hq4 _ (by omega))
  have fq : ∀ q9 : Nat, q9 < H.size → q9 ≠ a → H4[q9]? = H[q9]? := fun q9 h9 h8 => (hq4 q9 h8).trans (fq q9 h9 h8)
  have fz := hz4.trans fz
  refine lv_aload_n hx hb dX5_init_20 rfl (lv_at hl 0 rfl) ?_
  refine lv_aload_n hx hb dX5_init_21 rfl (lv_at hl 1 rfl) ?_
  refine x_putF (C := RX5) (TT := TX5) (N := 3) (ci := 8) (v := .ref x) (ty := tyX5 0) hx hb hts in_X5_init_RX5 tyX5 tyX5_ok nmX5 hown hK hS (ho) hAa rfl 0 (by decide) (hts (.fieldLink RX5 20 "Archeloft$Walk" "answers" "Ljava/util/ArrayList;") (by decide +kernel)) (fun _ h9 => h9) rfl hnm rfl (tyX5_ok 0 (by decide)) rfl rfl (Nat.le_of_ble_eq_true rfl) dX5_init_22 (fun H5 locs5 ho5 hz5 hq5 hS => ?_)
  have ho5 : oc D H5 a 8 [.ref x, .ref H.size, .int (nI 0)] := ho5
  have ho := ho5
  have hl9 := hl9.kept (hq5 _ (by omega))
  have fq : ∀ q9 : Nat, q9 < H.size → q9 ≠ a → H5[q9]? = H[q9]? := fun q9 h9 h8 => (hq5 q9 h8).trans (fq q9 h9 h8)
  have fz := hz5.trans fz
  exact r_v hx hb hrt9 hlk hS (Nat.le_of_ble_eq_true rfl) (Nat.le_of_ble_eq_true rfl) dX5_init_25 (by
        obtain ⟨d1, d2, d3⟩ := hev.dE hS
        exact ⟨ho, fun f => AL.new f hl9 d1 (by omega), fz, fq⟩)

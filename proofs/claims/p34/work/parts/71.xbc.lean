theorem rc.cong {k : ClassId} {H : Heap} {q n : Nat} {f f1 : Nat → Option Nat} (h : rc k H q n f) (e : ∀ j, j < n → f j = f1 j) : rc k H q n f1 := by
  have e1 : (fun j : Fin n => va_rf (f j.val)) = fun j : Fin n => va_rf (f1 j.val) := funext (fun j => by rw [e j.val j.isLt])
  have e2 : vp_cell k (n, .inr (.inr (.inr (.inr f)))) = vp_cell k (n, .inr (.inr (.inr (.inr f1)))) := by
    show arrV k n (fun j => va_rf (f j)) = arrV k n (fun j => va_rf (f1 j))
    unfold arrV
    rw [e1]
  exact h.trans (congrArg some e2)
/-- the tags of a new store -/
def tg0 (b q : Nat) : Nat := if q = b then 1 else if q = b + 1 then 2 else if q = b + 2 then 1000 else if q = b + 3 then 100 else if q = b + 4 then 200 else if b + 5 ≤ q ∧ q < b + 101 then 5 else 0
theorem tg0_z {b q : Nat} (h : q < b ∨ b + 101 ≤ q) : tg0 b q = 0 := by
  unfold tg0
  rw [if_neg (by omega), if_neg (by omega), if_neg (by omega), if_neg (by omega), if_neg (by omega), if_neg (by omega)]
theorem tg0_e {b q : Nat} (h1 : b + 5 ≤ q) (h2 : q < b + 101) : tg0 b q = 5 := by
  unfold tg0
  rw [if_neg (by omega), if_neg (by omega), if_neg (by omega), if_neg (by omega), if_neg (by omega), if_pos ⟨h1, h2⟩]
theorem tg0_0 {b : Nat} : tg0 b b = 1 := if_pos rfl
theorem tg0_1 {b : Nat} : tg0 b (b + 1) = 2 := by unfold tg0; rw [if_neg (by omega), if_pos rfl]
theorem tg0_2 {b : Nat} : tg0 b (b + 2) = 1000 := by unfold tg0; rw [if_neg (by omega), if_neg (by omega), if_pos rfl]
theorem tg0_3 {b : Nat} : tg0 b (b + 3) = 100 := by unfold tg0; rw [if_neg (by omega), if_neg (by omega), if_neg (by omega), if_pos rfl]
theorem tg0_4 {b : Nat} : tg0 b (b + 4) = 200 := by unfold tg0; rw [if_neg (by omega), if_neg (by omega), if_neg (by omega), if_neg (by omega), if_pos rfl]
/-- the whole store on the heap -/
def RepX (D : va_G) (T : Nat → ClassId) (dE b : Nat) (A : Nat → Prop) (H : Heap) (M : mSt) : Prop := ∃ (tg : Nat → Nat) (y : mLy) (zq zy : mLz) (wo : Option Nat), Core D T dE b tg H A (sE M) (sR M) y wo (sT M) ∧ RepQ D T dE b tg H (sQ M) zq ∧ RepY D T dE b tg H (sY M) zy ∧ RepW D T dE b tg H (sW M) wo ∧ wOn (sW M) = wo.isSome
theorem rep0 {D : va_G} {T : Nat → ClassId} {dE b : Nat} {A : Nat → Prop} {H : Heap} (hA : ∀ q : Nat, b ≤ q → A q) (hde : ¬ A dE) (hz : H.size = b + 101) (hb : oc D H b 9 [.ref (b + 1), .ref (b + 2), .ref (b + 3), .ref (b + 4), .null, .int 0]) (hsl : rc (T 2) H (b + 1) 32 (fun k => if k < 32 then some (ea b k) else none))
    (l2 : ∀ f, AL D T dE H (b + 2) dE 0 0 f) (l3 : ∀ f, AL D T dE H (b + 3) dE 0 0 f) (l4 : ∀ f, AL D T dE H (b + 4) dE 0 0 f) (hE : ∀ k, k < 32 → PEn D T b H mE0 k) : RepX D T dE b A H mSt0 := by
  have hd : tg0 b dE = 0 := tg0_z (by
    by_cases c : dE < b
    · exact Or.inl c
    · exact absurd (hA dE (by omega)) hde)
  have hT : TG A b H (tg0 b) := by
    refine ⟨fun q hq => ?_, fun q hq => hA q (by omega), tg0_0, tg0_1, fun q h1 h2 => tg0_e h1 h2⟩
    by_cases c : q < b ∨ b + 101 ≤ q
    · exact absurd (tg0_z c) hq
    · exact ⟨hA q (by omega), by omega⟩
  refine ⟨tg0 b, (dE, 0, fun _ => 0, fun _ => 0, fun _ => 0, fun _ => 0), (dE, 0, fun _ => 0), (dE, 0, fun _ => 0), none, ⟨hT, ⟨hb, hsl.cong (fun j hj => if_pos hj)⟩, hE, ⟨⟨l2 _, Or.inl rfl, tg0_2, hd⟩, fun r hr => absurd hr (Nat.not_lt_zero r)⟩⟩, ⟨⟨l3 _, Or.inl rfl, tg0_3, hd⟩, fun r hr => absurd hr (Nat.not_lt_zero r)⟩, ⟨⟨l4 _, Or.inl rfl, tg0_4, hd⟩, fun r hr => absurd hr (Nat.not_lt_zero r)⟩, Or.inl ⟨rfl, rfl⟩, rfl⟩
set_option maxRecDepth 100000 in
theorem in_X6_init_RJx4a65c : ∀ w ∈ wsJx4a65c0, w ∈ wsX6_init := by decide +kernel
set_option maxRecDepth 100000 in
theorem in_X6_init_RX1 : ∀ w ∈ wsX10, w ∈ wsX6_init := by decide +kernel
set_option maxRecDepth 100000 in
theorem in_X6_init_RX6 : ∀ w ∈ wsX60, w ∈ wsX6_init := by decide +kernel
set_option maxHeartbeats 4000000 in
set_option maxRecDepth 100000 in
theorem c_X6_init (l : Launch) {D : va_G} {T : Nat → ClassId} {dE mi : Nat} (hst : l.stackTraces = false) {A : Nat → Prop} {H : Heap} {b0 : Nat} {u0 u1 u2 u3 u4 u5 : Value} (ho : oc D H b0 9 [u0, u1, u2, u3, u4, u5]) (hA : ∀ q : Nat, b0 ≤ q → A q) (hz0 : H.size = b0 + 1) : vx_Met l yX6_init wsX6_init (rmL 5 100 617) (PcE D T dE mi A H [.ref b0]) (QV A (fun H1 => RepX D T dE b0 A H1 mSt0 ∧ H1.size = b0 + 101 ∧ ∀ q : Nat, q < b0 → H1[q]? = H[q]?)) (XX A (XN)) 100 617 A := by
  refine entry (cc := cX6_init) (maxL := 2) (ret := none) (by decide) rfl (Nat.le_of_ble_eq_true rfl) ?_
  intro p e s m args below meth c hx hb hrt9 hml hown hts hlk hnt hnm hev hS ls hl
  have hown : s.vm.findClass RX6 = some m.cls := hown
  have hK := hev.1
  have hl : lv_has ls 2 [(0, .ref b0)] := hl
  refine lv_aload_n hx hb dX6_init_0 rfl (lv_at hl 0 rfl) ?_
  refine W.objInit hx hb hown (hts (.methodLink RX6 1 objectInit) (by decide +kernel)) (hts (.instanceMethod objectInit) (by decide +kernel)) (hts (.code objectInit ⟨#[0xb1]⟩ 1 none) (by decide +kernel)) rfl (by rw [hml]; exact hl.1) rfl dX6_init_1 (Nat.le_of_ble_eq_true rfl) (Nat.le_of_ble_eq_true rfl) ?_
  refine W.eq (g2 := F0 m 4 ls []) rfl ?_
  refine lv_aload_n hx hb dX6_init_4 rfl (lv_at hl 0 rfl) ?_
  refine lv_bipush (v := nI 32) hx hb dX6_init_5 (by decide) ?_
  refine x_newq (C := "Archeloft$Entity") (t0 := 2) (n := 32) hx hb hown (hts (.classLink RX6 9 "Archeloft$Entity") (by decide +kernel)) hev.2.2.2.2.2.2.1.1 hK rfl hS (by omega) (Nat.le_of_ble_eq_true rfl) (Nat.le_of_ble_eq_true rfl) dX6_init_7 (fun H1 hsl hz1 hq1 hS => ?_)
  have hbo := ho.kept (hq1 _ ho.lt)
  rw [hz0] at hsl
  have hzc : H1.size = b0 + 2 := by rw [hz1, hz0]
  have fq : ∀ q9 : Nat, q9 < H.size → q9 ≠ b0 → H1[q9]? = H[q9]? := fun q9 h9 _ => hq1 q9 h9
  refine x_tov (y := .ref ((b0 + 1))) (by rw [hz0]) ?_
  refine x_putF (C := RX6) (TT := TX6) (N := 6) (ci := 9) (v := .ref ((b0 + 1))) (ty := tyX6 0) hx hb hts in_X6_init_RX6 tyX6 tyX6_ok nmX6 hown hK hS (hbo) (hA _ (Nat.le_refl _)) rfl 0 (by decide) (hts (.fieldLink RX6 11 "Archeloft" "slots" "[LArcheloft$Entity;") (by decide +kernel)) (fun _ h9 => h9) rfl hnm rfl (tyX6_ok 0 (by decide)) rfl rfl (Nat.le_of_ble_eq_true rfl) dX6_init_10 (fun H2 locs2 ho2 hz2 hq2 hS => ?_)
  have ho2 : oc D H2 b0 9 [.ref ((b0 + 1)), u1, u2, u3, u4, u5] := ho2
  have hsl := hsl.kept (hq2 _ (by omega))
  have hzc : H2.size = b0 + 2 := by rw [hz2, hzc]
  have fq : ∀ q9 : Nat, q9 < H.size → q9 ≠ b0 → H2[q9]? = H[q9]? := fun q9 h9 h8 => (hq2 q9 h8).trans (fq q9 h9 h8)
  refine lv_aload_n hx hb dX6_init_13 rfl (lv_at hl 0 rfl) ?_
  refine x_new (C := RJx4a65c) (TT := TJx4a65c) (N := 3) (ci := 2) (fs := [.int 0, .null, .int 0]) hx hb hts in_X6_init_RJx4a65c tyJx4a65c tyJx4a65c_ok hown (hts (.classLink RX6 15 RJx4a65c) (by decide +kernel)) (hts (.instantiable RJx4a65c 3) (by decide +kernel)) (hts (.initialized RJx4a65c) (by decide +kernel)) hK hS rfl (by decide) (Nat.le_of_ble_eq_true rfl) (Nat.le_of_ble_eq_true rfl) dX6_init_14 (fun H3 ho3 hz3 hq3 hS => ?_)
  have hnw := ho3
  rw [hzc] at hnw
  have hbo := ho2.kept (hq3 _ ho2.lt)
  have hsl := hsl.kept (hq3 _ hsl.lt)
  have fq : ∀ q9 : Nat, q9 < H.size → q9 ≠ b0 → H3[q9]? = H[q9]? := fun q9 h9 h8 => (hq3 q9 (by omega)).trans (fq q9 h9 h8)
  refine x_tov (y := .ref ((b0 + 2))) (by rw [hzc]) ?_
  have hzc : H3.size = b0 + 3 := by rw [hz3, hzc]
  refine lv_dup hx hb dX6_init_17 rfl ?_
  refine k_vp (k_I (As := []) (rest := [.ref ((b0 + 2)), .ref b0]) ⟨hx, hb, hml, hown, hts⟩ hev hS (c_Jx4a65c_init_da8c8 l hnw (hA _ (by omega))) (cwI 0 hts gX6_init_Jx4a65c_init_da8c8 rfl rfl rfl (hts (.initialized RJx4a65c) (by decide +kernel)) (hts (.methodLink RX6 17 yJx4a65c_init_da8c8) (by decide +kernel)) (hts (.instanceMethod yJx4a65c_init_da8c8) (by decide +kernel)) rfl (by decide +kernel) ⟨Nat.le_of_ble_eq_true rfl, Nat.le_of_ble_eq_true rfl⟩) rfl hl.1 (Nat.le_of_ble_eq_true rfl) dX6_init_18 (Nat.le_of_ble_eq_true rfl) (Nat.le_of_ble_eq_true rfl)) hS hnt hlk (fun _ _ h _ => h.elim) (Nat.le_of_ble_eq_true rfl) (Nat.le_of_ble_eq_true rfl) (fun H4 locs4 hP hz4 hS => ?_)
  refine W.widen (k := 0 + 1 + 1) (n := 0 + 32 + 3) (Nat.le_refl _) (Nat.le_refl _) ?_
  obtain ⟨l2, ez9, eq9⟩ := hP
  have l2 : oc D H4 (b0 + 2) 2 [.int (nI 0), .ref dE, .int (nI 0)] := l2
  have hbo := hbo.kept (eq9 _ (by omega))
  have hsl := hsl.kept (eq9 _ (by omega))
  have hzc : H4.size = b0 + 3 := by rw [ez9, hzc]
  have fq : ∀ q9 : Nat, q9 < H.size → q9 ≠ b0 → H4[q9]? = H[q9]? := fun q9 h9 h8 => (eq9 q9 (by omega)).trans (fq q9 h9 h8)
  refine x_putF (C := RX6) (TT := TX6) (N := 6) (ci := 9) (v := .ref ((b0 + 2))) (ty := tyX6 1) hx hb hts in_X6_init_RX6 tyX6 tyX6_ok nmX6 hown hK hS (hbo) (hA _ (Nat.le_refl _)) rfl 1 (by decide) (hts (.fieldLink RX6 18 "Archeloft" "rowList" "Ljava/util/ArrayList;") (by decide +kernel)) (fun _ h9 => h9) rfl hnm rfl (tyX6_ok 1 (by decide)) rfl rfl (Nat.le_of_ble_eq_true rfl) dX6_init_21 (fun H5 locs5 ho5 hz5 hq5 hS => ?_)
  have ho5 : oc D H5 b0 9 [.ref ((b0 + 1)), .ref ((b0 + 2)), u2, u3, u4, u5] := ho5
  have hsl := hsl.kept (hq5 _ (by omega))
  have l2 := l2.kept (hq5 _ (by omega))
  have hzc : H5.size = b0 + 3 := by rw [hz5, hzc]
  have fq : ∀ q9 : Nat, q9 < H.size → q9 ≠ b0 → H5[q9]? = H[q9]? := fun q9 h9 h8 => (hq5 q9 h8).trans (fq q9 h9 h8)
  refine lv_aload_n hx hb dX6_init_24 rfl (lv_at hl 0 rfl) ?_
  refine x_new (C := RJx4a65c) (TT := TJx4a65c) (N := 3) (ci := 2) (fs := [.int 0, .null, .int 0]) hx hb hts in_X6_init_RJx4a65c tyJx4a65c tyJx4a65c_ok hown (hts (.classLink RX6 15 RJx4a65c) (by decide +kernel)) (hts (.instantiable RJx4a65c 3) (by decide +kernel)) (hts (.initialized RJx4a65c) (by decide +kernel)) hK hS rfl (by decide) (Nat.le_of_ble_eq_true rfl) (Nat.le_of_ble_eq_true rfl) dX6_init_25 (fun H6 ho6 hz6 hq6 hS => ?_)
  have hnw := ho6
  rw [hzc] at hnw
  have hbo := ho5.kept (hq6 _ ho5.lt)
  have hsl := hsl.kept (hq6 _ hsl.lt)
  have l2 := l2.kept (hq6 _ l2.lt)
  have fq : ∀ q9 : Nat, q9 < H.size → q9 ≠ b0 → H6[q9]? = H[q9]? := fun q9 h9 h8 => (hq6 q9 (by omega)).trans (fq q9 h9 h8)
  refine x_tov (y := .ref ((b0 + 3))) (by rw [hzc]) ?_
  have hzc : H6.size = b0 + 4 := by rw [hz6, hzc]
  refine lv_dup hx hb dX6_init_28 rfl ?_
  refine k_vp (k_I (As := []) (rest := [.ref ((b0 + 3)), .ref b0]) ⟨hx, hb, hml, hown, hts⟩ hev hS (c_Jx4a65c_init_da8c8 l hnw (hA _ (by omega))) (cwI 0 hts gX6_init_Jx4a65c_init_da8c8 rfl rfl rfl (hts (.initialized RJx4a65c) (by decide +kernel)) (hts (.methodLink RX6 17 yJx4a65c_init_da8c8) (by decide +kernel)) (hts (.instanceMethod yJx4a65c_init_da8c8) (by decide +kernel)) rfl (by decide +kernel) ⟨Nat.le_of_ble_eq_true rfl, Nat.le_of_ble_eq_true rfl⟩) rfl hl.1 (Nat.le_of_ble_eq_true rfl) dX6_init_29 (Nat.le_of_ble_eq_true rfl) (Nat.le_of_ble_eq_true rfl)) hS hnt hlk (fun _ _ h _ => h.elim) (Nat.le_of_ble_eq_true rfl) (Nat.le_of_ble_eq_true rfl) (fun H7 locs7 hP hz7 hS => ?_)
  refine W.widen (k := 0 + 1 + 1 + 1) (n := 0 + 32 + 3 + 3) (Nat.le_refl _) (Nat.le_refl _) ?_
  obtain ⟨l3, ez9, eq9⟩ := hP
  have l3 : oc D H7 (b0 + 3) 2 [.int (nI 0), .ref dE, .int (nI 0)] := l3
  have hbo := hbo.kept (eq9 _ (by omega))
  have hsl := hsl.kept (eq9 _ (by omega))
  have l2 := l2.kept (eq9 _ (by omega))
  have hzc : H7.size = b0 + 4 := by rw [ez9, hzc]
  have fq : ∀ q9 : Nat, q9 < H.size → q9 ≠ b0 → H7[q9]? = H[q9]? := fun q9 h9 h8 => (eq9 q9 (by omega)).trans (fq q9 h9 h8)
  refine x_putF (C := RX6) (TT := TX6) (N := 6) (ci := 9) (v := .ref ((b0 + 3))) (ty := tyX6 2) hx hb hts in_X6_init_RX6 tyX6 tyX6_ok nmX6 hown hK hS (hbo) (hA _ (Nat.le_refl _)) rfl 2 (by decide) (hts (.fieldLink RX6 22 "Archeloft" "questionList" "Ljava/util/ArrayList;") (by decide +kernel)) (fun _ h9 => h9) rfl hnm rfl (tyX6_ok 2 (by decide)) rfl rfl (Nat.le_of_ble_eq_true rfl) dX6_init_32 (fun H8 locs8 ho8 hz8 hq8 hS => ?_)
  have ho8 : oc D H8 b0 9 [.ref ((b0 + 1)), .ref ((b0 + 2)), .ref ((b0 + 3)), u3, u4, u5] := ho8
  have hsl := hsl.kept (hq8 _ (by omega))
  have l2 := l2.kept (hq8 _ (by omega))
  have l3 := l3.kept (hq8 _ (by omega))
  have hzc : H8.size = b0 + 4 := by rw [hz8, hzc]
  have fq : ∀ q9 : Nat, q9 < H.size → q9 ≠ b0 → H8[q9]? = H[q9]? := fun q9 h9 h8 => (hq8 q9 h8).trans (fq q9 h9 h8)
  refine lv_aload_n hx hb dX6_init_35 rfl (lv_at hl 0 rfl) ?_
  refine x_new (C := RJx4a65c) (TT := TJx4a65c) (N := 3) (ci := 2) (fs := [.int 0, .null, .int 0]) hx hb hts in_X6_init_RJx4a65c tyJx4a65c tyJx4a65c_ok hown (hts (.classLink RX6 15 RJx4a65c) (by decide +kernel)) (hts (.instantiable RJx4a65c 3) (by decide +kernel)) (hts (.initialized RJx4a65c) (by decide +kernel)) hK hS rfl (by decide) (Nat.le_of_ble_eq_true rfl) (Nat.le_of_ble_eq_true rfl) dX6_init_36 (fun H9 ho9 hz9 hq9 hS => ?_)
  have hnw := ho9
  rw [hzc] at hnw
  have hbo := ho8.kept (hq9 _ ho8.lt)
  have hsl := hsl.kept (hq9 _ hsl.lt)
  have l2 := l2.kept (hq9 _ l2.lt)
  have l3 := l3.kept (hq9 _ l3.lt)
  have fq : ∀ q9 : Nat, q9 < H.size → q9 ≠ b0 → H9[q9]? = H[q9]? := fun q9 h9 h8 => (hq9 q9 (by omega)).trans (fq q9 h9 h8)
  refine x_tov (y := .ref ((b0 + 4))) (by rw [hzc]) ?_
  have hzc : H9.size = b0 + 5 := by rw [hz9, hzc]
  refine lv_dup hx hb dX6_init_39 rfl ?_
  refine k_vp (k_I (As := []) (rest := [.ref ((b0 + 4)), .ref b0]) ⟨hx, hb, hml, hown, hts⟩ hev hS (c_Jx4a65c_init_da8c8 l hnw (hA _ (by omega))) (cwI 0 hts gX6_init_Jx4a65c_init_da8c8 rfl rfl rfl (hts (.initialized RJx4a65c) (by decide +kernel)) (hts (.methodLink RX6 17 yJx4a65c_init_da8c8) (by decide +kernel)) (hts (.instanceMethod yJx4a65c_init_da8c8) (by decide +kernel)) rfl (by decide +kernel) ⟨Nat.le_of_ble_eq_true rfl, Nat.le_of_ble_eq_true rfl⟩) rfl hl.1 (Nat.le_of_ble_eq_true rfl) dX6_init_40 (Nat.le_of_ble_eq_true rfl) (Nat.le_of_ble_eq_true rfl)) hS hnt hlk (fun _ _ h _ => h.elim) (Nat.le_of_ble_eq_true rfl) (Nat.le_of_ble_eq_true rfl) (fun H10 locs10 hP hz10 hS => ?_)
  refine W.widen (k := 0 + 1 + 1 + 1 + 1) (n := 0 + 32 + 3 + 3 + 3) (Nat.le_refl _) (Nat.le_refl _) ?_
  obtain ⟨l4, ez9, eq9⟩ := hP
  have l4 : oc D H10 (b0 + 4) 2 [.int (nI 0), .ref dE, .int (nI 0)] := l4
  have hbo := hbo.kept (eq9 _ (by omega))
  have hsl := hsl.kept (eq9 _ (by omega))
  have l2 := l2.kept (eq9 _ (by omega))
  have l3 := l3.kept (eq9 _ (by omega))
  have hzc : H10.size = b0 + 5 := by rw [ez9, hzc]
  have fq : ∀ q9 : Nat, q9 < H.size → q9 ≠ b0 → H10[q9]? = H[q9]? := fun q9 h9 h8 => (eq9 q9 (by omega)).trans (fq q9 h9 h8)
  refine x_putF (C := RX6) (TT := TX6) (N := 6) (ci := 9) (v := .ref ((b0 + 4))) (ty := tyX6 3) hx hb hts in_X6_init_RX6 tyX6 tyX6_ok nmX6 hown hK hS (hbo) (hA _ (Nat.le_refl _)) rfl 3 (by decide) (hts (.fieldLink RX6 25 "Archeloft" "systemList" "Ljava/util/ArrayList;") (by decide +kernel)) (fun _ h9 => h9) rfl hnm rfl (tyX6_ok 3 (by decide)) rfl rfl (Nat.le_of_ble_eq_true rfl) dX6_init_43 (fun H11 locs11 ho11 hz11 hq11 hS => ?_)
  have ho11 : oc D H11 b0 9 [.ref ((b0 + 1)), .ref ((b0 + 2)), .ref ((b0 + 3)), .ref ((b0 + 4)), u4, u5] := ho11
  have hsl := hsl.kept (hq11 _ (by omega))
  have l2 := l2.kept (hq11 _ (by omega))
  have l3 := l3.kept (hq11 _ (by omega))
  have l4 := l4.kept (hq11 _ (by omega))
  have hzc : H11.size = b0 + 5 := by rw [hz11, hzc]
  have fq : ∀ q9 : Nat, q9 < H.size → q9 ≠ b0 → H11[q9]? = H[q9]? := fun q9 h9 h8 => (hq11 q9 h8).trans (fq q9 h9 h8)
  refine lv_aload_n hx hb dX6_init_46 rfl (lv_at hl 0 rfl) ?_
  refine lv_null hx hb dX6_init_47 ?_
  refine x_put (C := RX6) (TT := TX6) (N := 6) (ci := 9) (v := .null) (ty := tyX6 4) hx hb hts in_X6_init_RX6 tyX6 tyX6_ok nmX6 hown hK hS (ho11) (hA _ (Nat.le_refl _)) rfl 4 (by decide) (hts (.fieldLink RX6 28 "Archeloft" "walkOfNow" "LArcheloft$Walk;") (by decide +kernel)) (fun _ h9 => h9) rfl (tyX6_ok 4 (by decide)) rfl rfl (Nat.le_of_ble_eq_true rfl) dX6_init_48 (fun H12 locs12 ho12 hz12 hq12 hS => ?_)
  have ho12 : oc D H12 b0 9 [.ref ((b0 + 1)), .ref ((b0 + 2)), .ref ((b0 + 3)), .ref ((b0 + 4)), .null, u5] := ho12
  have hsl := hsl.kept (hq12 _ (by omega))
  have l2 := l2.kept (hq12 _ (by omega))
  have l3 := l3.kept (hq12 _ (by omega))
  have l4 := l4.kept (hq12 _ (by omega))
  have hzc : H12.size = b0 + 5 := by rw [hz12, hzc]
  have fq : ∀ q9 : Nat, q9 < H.size → q9 ≠ b0 → H12[q9]? = H[q9]? := fun q9 h9 h8 => (hq12 q9 h8).trans (fq q9 h9 h8)
  refine lv_aload_n hx hb dX6_init_51 rfl (lv_at hl 0 rfl) ?_
  refine lv_iconst (v := nI 0) hx hb dX6_init_52 (by decide) ?_
  refine x_put (C := RX6) (TT := TX6) (N := 6) (ci := 9) (v := .int (nI 0)) (ty := tyX6 5) hx hb hts in_X6_init_RX6 tyX6 tyX6_ok nmX6 hown hK hS (ho12) (hA _ (Nat.le_refl _)) rfl 5 (by decide) (hts (.fieldLink RX6 32 "Archeloft" "tickOfNow" "I") (by decide +kernel)) (fun _ h9 => h9) rfl (tyX6_ok 5 (by decide)) rfl rfl (Nat.le_of_ble_eq_true rfl) dX6_init_53 (fun H13 locs13 ho13 hz13 hq13 hS => ?_)
  have ho13 : oc D H13 b0 9 [.ref ((b0 + 1)), .ref ((b0 + 2)), .ref ((b0 + 3)), .ref ((b0 + 4)), .null, .int (nI 0)] := ho13
  have hsl := hsl.kept (hq13 _ (by omega))
  have l2 := l2.kept (hq13 _ (by omega))
  have l3 := l3.kept (hq13 _ (by omega))
  have l4 := l4.kept (hq13 _ (by omega))
  have hzc : H13.size = b0 + 5 := by rw [hz13, hzc]
  have fq : ∀ q9 : Nat, q9 < H.size → q9 ≠ b0 → H13[q9]? = H[q9]? := fun q9 h9 h8 => (hq13 q9 h8).trans (fq q9 h9 h8)
  have hbl : oc D H13 b0 9 [.ref (b0 + 1), .ref (b0 + 2), .ref (b0 + 3), .ref (b0 + 4), .null, .int 0] := ho13
  have hsl0 : rc (T 2) H13 (b0 + 1) 32 (fun k => if k < 0 then some (ea b0 k) else none) := hsl.cong (fun j _ => (if_neg (Nat.not_lt_zero j)).symm)
  refine W.widen (k := 4 + 3 * 0) (n := 41 + 18 * 0) (by decide) (by decide) ?_
  refine lv_iconst (v := nI 0) hx hb dX6_init_56 (by decide) ?_
  refine lv_istore_n (lv' := [(1, .int (nI 0)), (0, .ref b0)]) hx hb dX6_init_57 rfl hl (by decide) rfl (fun ls hl => ?_)
  have loop58 : ∀ (n : Nat) (i : Nat) (Hi_ : Heap) (locsi_ : List Loc), 32 - i < n → (i ≤ 32) → (oc D Hi_ b0 9 [.ref (b0 + 1), .ref (b0 + 2), .ref (b0 + 3), .ref (b0 + 4), .null, .int 0]) → (rc (T 2) Hi_ (b0 + 1) 32 (fun k => if k < i then some (ea b0 k) else none)) → (oc D Hi_ (b0 + 2) 2 [.int (nI 0), .ref dE, .int (nI 0)]) → (oc D Hi_ (b0 + 3) 2 [.int (nI 0), .ref dE, .int (nI 0)]) → (oc D Hi_ (b0 + 4) 2 [.int (nI 0), .ref dE, .int (nI 0)]) → (∀ k, k < i → PEn D T b0 Hi_ mE0 k) → (Hi_.size = b0 + 5 + 3 * i) → (∀ q9 : Nat, q9 < H.size → q9 ≠ b0 → Hi_[q9]? = H[q9]?) → (va_S A s.heap Hi_ locsi_) → ∀ (ls : Array Slot), lv_has ls 2 [(1, .int (nI i)), (0, .ref b0)] → W p l e (rmL 5 100 617) s m args below meth c Hi_ locsi_ (4 + 3 * i) (41 + 18 * i) (vx_MQ below (QV A (fun H1 => RepX D T dE b0 A H1 mSt0 ∧ H1.size = b0 + 101 ∧ ∀ q : Nat, q < b0 → H1[q]? = H[q]?)) (XX A (XN)) args s 100 617 A) (F0 m 58 ls []) := by
    intro n
    induction n with
    | zero => intro i Hi_ locsi_ hfuel; exact absurd hfuel (Nat.not_lt_zero _)
    | succ n ih58 =>
      intro i Hi_ locsi_ hfuel hi hbl hsl l2 l3 l4 hEn hzc fq hS ls hl
      refine lv_iload_n hx hb dX6_init_58 rfl (lv_at hl 0 rfl) ?_
      refine lv_bipush (v := nI 32) hx hb dX6_init_59 (by decide) ?_
      refine y_icmp_ge hx hb (by omega) (Nat.le_of_ble_eq_true rfl) (tgt := 84) dX6_init_61 (by decide) (fun c61 => ?_) (fun c61 => ?_)
      · have ei : i = 32 := by omega
        exact r_v hx hb hrt9 hlk hS (by omega) (by omega) dX6_init_84 (by
              obtain ⟨d1, d2, d3⟩ := hev.dE hS
              rw [ei] at hsl hEn hzc
              have ne : ∀ k, dE ≠ b0 + k := fun k z => d3 (by rw [z]; exact hA _ (Nat.le_add_right _ _))
              exact ⟨rep0 hA d3 hzc hbl hsl (fun f => AL.new f l2 d1 (ne 2)) (fun f => AL.new f l3 d1 (ne 3)) (fun f => AL.new f l4 d1 (ne 4)) hEn, hzc, fun q9 h9 => fq q9 (by omega) (by omega)⟩)
      · have hi2 : i < 32 := by omega
        refine lv_aload_n hx hb dX6_init_64 rfl (lv_at hl 1 rfl) ?_
        refine x_get (C := RX6) (TT := TX6) (N := 6) (ci := 9) (v := .ref ((b0 + 1))) hx hb hts in_X6_init_RX6 hown hK (hbl) rfl 0 (by decide) (hts (.fieldLink RX6 11 "Archeloft" "slots" "[LArcheloft$Entity;") (by decide +kernel)) (fun _ h9 => h9) rfl dX6_init_65 ?_
        refine lv_iload_n hx hb dX6_init_68 rfl (lv_at hl 0 rfl) ?_
        refine x_new (C := RX1) (TT := TX1) (N := 6) (ci := 4) (fs := [.null, .null, .int 0, .int 0, .null, .int 0]) hx hb hts in_X6_init_RX1 tyX1 tyX1_ok hown (hts (.classLink RX6 9 RX1) (by decide +kernel)) (hts (.instantiable RX1 6) (by decide +kernel)) (hts (.initialized RX1) (by decide +kernel)) hK hS rfl (by decide) (by show _ ≤ (100 : Nat); omega) (by show _ ≤ (617 : Nat); omega) dX6_init_69 (fun H14 ho14 hz14 hq14 hS => ?_)
        have hen := ho14
        rw [show Hi_.size = ea b0 i by rw [hzc]; rfl] at hen
        have k1 : ∀ q9 : Nat, q9 < Hi_.size → H14[q9]? = Hi_[q9]? := hq14
        have kz : H14.size = b0 + 5 + 3 * i + 1 := by rw [hz14, hzc]
        refine x_tov (y := .ref ((ea b0 i))) (by rw [show ea b0 i = Hi_.size by rw [hzc]; rfl]) ?_
        refine lv_dup hx hb dX6_init_72 rfl ?_
        refine lv_iload_n hx hb dX6_init_73 rfl (lv_at hl 0 rfl) ?_
        refine k_vp (k_I (As := [.int (nI i)]) (rest := [.ref ((ea b0 i)), .int (nI i), .ref ((b0 + 1))]) ⟨hx, hb, hml, hown, hts⟩ hev hS (c_X1_init l hen (hA _ (by unfold ea; omega)) (nI i)) (cwI 1 hts gX6_init_X1_init rfl rfl rfl (hts (.initialized RX1) (by decide +kernel)) (hts (.methodLink RX6 36 yX1_init) (by decide +kernel)) (hts (.instanceMethod yX1_init) (by decide +kernel)) rfl (by decide +kernel) ⟨Nat.le_of_ble_eq_true rfl, Nat.le_of_ble_eq_true rfl⟩) rfl hl.1 (Nat.le_of_ble_eq_true rfl) dX6_init_74 (by show _ ≤ (100 : Nat); omega) (by show _ ≤ (617 : Nat); omega)) hS hnt hlk (fun _ _ h _ => h.elim) (by show _ ≤ (100 : Nat); omega) (by show _ ≤ (617 : Nat); omega) (fun H15 locs15 hP hz15 hS => ?_)
        obtain ⟨hen, iv1, iv2, ez3, eq3⟩ := hP
        rw [kz] at hen iv1 iv2 ez3
        have k2 : ∀ q9 : Nat, q9 < Hi_.size → H15[q9]? = Hi_[q9]? := fun q9 h9 => (eq3 q9 (by omega) (by unfold ea; omega)).trans (k1 q9 h9)
        have kz2 : H15.size = b0 + 5 + 3 * i + 3 := ez3
        have hen : oc D H15 (ea b0 i) 4 [.ref (ea b0 i + 1), .ref (ea b0 i + 2), .int (handle mE0 i), .int (bI (mAl mE0 i)), va_rf ((mPar mE0 i).map (ea b0)), .int (nI (mKd mE0 i))] := hen
        have hsl := hsl.kept (k2 _ hsl.lt)
        refine x_aastS (i := i) hx hb hK hS hsl (hA _ (by omega)) (by omega) (by decide) hen rfl dX6_init_77 (fun H16 locs16 hsl2 hz16 hq16 hS => ?_)
        have hslN : rc (T 2) H16 (b0 + 1) 32 (fun k => if k < (i + 1) then some (ea b0 k) else none) := hsl2.cong (fun j hj => by
          show (if j = i then some (ea b0 i) else if j < i then some (ea b0 j) else none) = if j < i + 1 then some (ea b0 j) else none
          by_cases c : j = i
          · rw [if_pos c, if_pos (by omega), c]
          · by_cases c2 : j < i
            · rw [if_neg c, if_pos c2, if_pos (by omega)]
            · rw [if_neg c, if_neg c2, if_neg (by omega)])
        have k3 : ∀ q9 : Nat, q9 < Hi_.size → q9 ≠ b0 + 1 → H16[q9]? = Hi_[q9]? := fun q9 h9 h8 => (hq16 q9 h8).trans (k2 q9 h9)
        have hblN := hbl.kept (k3 _ hbl.lt (by omega))
        have l2N := l2.kept (k3 _ l2.lt (by omega))
        have l3N := l3.kept (k3 _ l3.lt (by omega))
        have l4N := l4.kept (k3 _ l4.lt (by omega))
        have hzN : H16.size = b0 + 5 + 3 * (i + 1) := by rw [hz16, kz2]; omega
        have fqN : ∀ q9 : Nat, q9 < H.size → q9 ≠ b0 → H16[q9]? = H[q9]? := fun q9 h9 h8 => (k3 q9 (by omega) (by omega)).trans (fq q9 h9 h8)
        have hEN : ∀ k, k < i + 1 → PEn D T b0 H16 mE0 k := fun k hk => by
          by_cases c : k = i
          · subst c
            exact ⟨hen.kept (hq16 _ (by unfold ea; omega)), _, _, iv1.kept (hq16 _ (by omega)), iv2.kept (hq16 _ (by omega)), fun j _ => ⟨rfl, rfl⟩⟩
          · obtain ⟨p1, fv, fm, p2, p3, p4⟩ := hEn k (by omega)
            exact ⟨p1.kept (k3 _ p1.lt (by unfold ea; omega)), fv, fm, p2.kept (k3 _ p2.lt (by unfold ea; omega)), p3.kept (k3 _ p3.lt (by unfold ea; omega)), p4⟩
        refine W.widen (k := 4 + 3 * (i + 1)) (n := 41 + 18 * (i + 1)) (by omega) (by omega) ?_
        refine lv_iinc (v := (nI (i + 1))) (lv' := [(1, .int (nI (i + 1))), (0, .ref b0)]) hx hb dX6_init_78 hl (k := 0) rfl (nI_inc _) (by decide) rfl (fun ls hl => ?_)
        refine lv_goto (tgt := 58) hx hb dX6_init_81 (by decide) ?_
        exact ih58 (i + 1) H16 locs16 (by omega) (by omega) hblN hslN l2N l3N l4N hEN hzN fqN hS ls (lv_sub hl [0, 1] rfl)
  exact loop58 ((32 - 0) + 1) 0 H13 locs13 (Nat.lt_succ_self _) (Nat.zero_le _) hbl hsl0 l2 l3 l4 (fun k hk => absurd hk (Nat.not_lt_zero k)) hzc fq hS ls (lv_sub hl [0, 1] rfl)

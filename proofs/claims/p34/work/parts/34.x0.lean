set_option maxRecDepth 100000 in
theorem in_X0_init_RX0 : ∀ w ∈ wsX00, w ∈ wsX0_init := by decide +kernel
set_option maxHeartbeats 4000000 in
set_option maxRecDepth 100000 in
theorem c_X0_init (l : Launch) {D : va_G} {T : Nat → ClassId} {dE mi : Nat} {A : Nat → Prop} {H : Heap} {a : Nat} {u0 u1 u2 u3 : Value} (ho : oc D H a 3 [u0, u1, u2, u3]) (hAa : A a) (x0_ x1_ x2_ x3_ : Int32) : vx_Met l yX0_init wsX0_init (rmL 2 0 0) (PcE D T dE mi A H [.ref a, .int x0_, .int x1_, .int x2_, .int x3_]) (QV A (fun H1 => oc D H1 a 3 [.int x0_, .int x1_, .int x2_, .int x3_] ∧ H1.size = H.size ∧ ∀ q : Nat, q ≠ a → H1[q]? = H[q]?)) (XX A (XN)) 0 0 A := by
  refine entry (cc := cX0_init) (maxL := 5) (ret := none) (by decide) rfl (Nat.le_of_ble_eq_true rfl) ?_
  intro p e s m args below meth c hx hb hrt9 hml hown hts hlk hnt hnm hev hS ls hl
  have hown : s.vm.findClass RX0 = some m.cls := hown
  have hK := hev.1
  have hl : lv_has ls 5 [(0, .ref a), (1, .int x0_), (2, .int x1_), (3, .int x2_), (4, .int x3_)] := hl
  refine lv_aload_n hx hb dX0_init_0 rfl (lv_at hl 0 rfl) ?_
  refine W.objInit hx hb hown (hts (.methodLink RX0 1 objectInit) (by decide +kernel)) (hts (.instanceMethod objectInit) (by decide +kernel)) (hts (.code objectInit ⟨#[0xb1]⟩ 1 none) (by decide +kernel)) rfl (by rw [hml]; exact hl.1) rfl dX0_init_1 (Nat.le_of_ble_eq_true rfl) (Nat.le_of_ble_eq_true rfl) ?_
  refine W.eq (g2 := F0 m 4 ls []) rfl ?_
  refine lv_aload_n hx hb dX0_init_4 rfl (lv_at hl 0 rfl) ?_
  refine lv_iload_n hx hb dX0_init_5 rfl (lv_at hl 1 rfl) ?_
  refine x_putF (C := RX0) (TT := TX0) (N := 4) (ci := 3) (v := .int x0_) (ty := tyX0 0) hx hb hts in_X0_init_RX0 tyX0 tyX0_ok nmX0 hown hK hS (ho) hAa rfl 0 (by decide) (hts (.fieldLink RX0 7 "Archeloft$Command" "what" "I") (by decide +kernel)) (fun _ h9 => h9) rfl hnm rfl (tyX0_ok 0 (by decide)) rfl rfl (Nat.le_of_ble_eq_true rfl) dX0_init_6 (fun H1 locs1 ho1 hz1 hq1 hS => ?_)
  have ho1 : oc D H1 a 3 [.int x0_, u1, u2, u3] := ho1
  refine lv_aload_n hx hb dX0_init_9 rfl (lv_at hl 0 rfl) ?_
  refine lv_iload_n hx hb dX0_init_10 rfl (lv_at hl 2 rfl) ?_
  refine x_putF (C := RX0) (TT := TX0) (N := 4) (ci := 3) (v := .int x1_) (ty := tyX0 1) hx hb hts in_X0_init_RX0 tyX0 tyX0_ok nmX0 hown hK hS (ho1) hAa rfl 1 (by decide) (hts (.fieldLink RX0 13 "Archeloft$Command" "handle" "I") (by decide +kernel)) (fun _ h9 => h9) rfl hnm rfl (tyX0_ok 1 (by decide)) rfl rfl (Nat.le_of_ble_eq_true rfl) dX0_init_11 (fun H2 locs2 ho2 hz2 hq2 hS => ?_)
  have ho2 : oc D H2 a 3 [.int x0_, .int x1_, u2, u3] := ho2
  refine lv_aload_n hx hb dX0_init_14 rfl (lv_at hl 0 rfl) ?_
  refine lv_iload_n hx hb dX0_init_15 rfl (lv_at hl 3 rfl) ?_
  refine x_putF (C := RX0) (TT := TX0) (N := 4) (ci := 3) (v := .int x2_) (ty := tyX0 2) hx hb hts in_X0_init_RX0 tyX0 tyX0_ok nmX0 hown hK hS (ho2) hAa rfl 2 (by decide) (hts (.fieldLink RX0 16 "Archeloft$Command" "kind" "I") (by decide +kernel)) (fun _ h9 => h9) rfl hnm rfl (tyX0_ok 2 (by decide)) rfl rfl (Nat.le_of_ble_eq_true rfl) dX0_init_16 (fun H3 locs3 ho3 hz3 hq3 hS => ?_)
  have ho3 : oc D H3 a 3 [.int x0_, .int x1_, .int x2_, u3] := ho3
  refine lv_aload_n hx hb dX0_init_19 rfl (lv_at hl 0 rfl) ?_
  refine lv_iload hx hb dX0_init_20 (lv_at hl 4 rfl) ?_
  refine x_putF (C := RX0) (TT := TX0) (N := 4) (ci := 3) (v := .int x3_) (ty := tyX0 3) hx hb hts in_X0_init_RX0 tyX0 tyX0_ok nmX0 hown hK hS (ho3) hAa rfl 3 (by decide) (hts (.fieldLink RX0 19 "Archeloft$Command" "value" "I") (by decide +kernel)) (fun _ h9 => h9) rfl hnm rfl (tyX0_ok 3 (by decide)) rfl rfl (Nat.le_of_ble_eq_true rfl) dX0_init_22 (fun H4 locs4 ho4 hz4 hq4 hS => ?_)
  have ho4 : oc D H4 a 3 [.int x0_, .int x1_, .int x2_, .int x3_] := ho4
  exact r_v hx hb hrt9 hlk hS (Nat.le_of_ble_eq_true rfl) (Nat.le_of_ble_eq_true rfl) dX0_init_25 (⟨ho4, by rw [hz4, hz3, hz2, hz1], fun q9 h9 => (hq4 q9 h9).trans ((hq3 q9 h9).trans ((hq2 q9 h9).trans (hq1 q9 h9)))⟩)
set_option maxRecDepth 100000 in
theorem in_X2_init_RX2 : ∀ w ∈ wsX20, w ∈ wsX2_init := by decide +kernel
set_option maxHeartbeats 4000000 in
set_option maxRecDepth 100000 in
theorem c_X2_init (l : Launch) {D : va_G} {T : Nat → ClassId} {dE mi : Nat} {A : Nat → Prop} {H : Heap} {a : Nat} {u0 u1 u2 : Value} (ho : oc D H a 5 [u0, u1, u2]) (hAa : A a) (x0_ x1_ x2_ : Int32) : vx_Met l yX2_init wsX2_init (rmL 2 0 0) (PcE D T dE mi A H [.ref a, .int x0_, .int x1_, .int x2_]) (QV A (fun H1 => oc D H1 a 5 [.int x0_, .int x1_, .int x2_] ∧ H1.size = H.size ∧ ∀ q : Nat, q ≠ a → H1[q]? = H[q]?)) (XX A (XN)) 0 0 A := by
  refine entry (cc := cX2_init) (maxL := 4) (ret := none) (by decide) rfl (Nat.le_of_ble_eq_true rfl) ?_
  intro p e s m args below meth c hx hb hrt9 hml hown hts hlk hnt hnm hev hS ls hl
  have hown : s.vm.findClass RX2 = some m.cls := hown
  have hK := hev.1
  have hl : lv_has ls 4 [(0, .ref a), (1, .int x0_), (2, .int x1_), (3, .int x2_)] := hl
  refine lv_aload_n hx hb dX2_init_0 rfl (lv_at hl 0 rfl) ?_
  refine W.objInit hx hb hown (hts (.methodLink RX2 3 objectInit) (by decide +kernel)) (hts (.instanceMethod objectInit) (by decide +kernel)) (hts (.code objectInit ⟨#[0xb1]⟩ 1 none) (by decide +kernel)) rfl (by rw [hml]; exact hl.1) rfl dX2_init_1 (Nat.le_of_ble_eq_true rfl) (Nat.le_of_ble_eq_true rfl) ?_
  refine W.eq (g2 := F0 m 4 ls []) rfl ?_
  refine lv_aload_n hx hb dX2_init_4 rfl (lv_at hl 0 rfl) ?_
  refine lv_iload_n hx hb dX2_init_5 rfl (lv_at hl 1 rfl) ?_
  refine x_putF (C := RX2) (TT := TX2) (N := 3) (ci := 5) (v := .int x0_) (ty := tyX2 0) hx hb hts in_X2_init_RX2 tyX2 tyX2_ok nmX2 hown hK hS (ho) hAa rfl 0 (by decide) (hts (.fieldLink RX2 9 "Archeloft$Question" "all" "I") (by decide +kernel)) (fun _ h9 => h9) rfl hnm rfl (tyX2_ok 0 (by decide)) rfl rfl (Nat.le_of_ble_eq_true rfl) dX2_init_6 (fun H1 locs1 ho1 hz1 hq1 hS => ?_)
  have ho1 : oc D H1 a 5 [.int x0_, u1, u2] := ho1
  refine lv_aload_n hx hb dX2_init_9 rfl (lv_at hl 0 rfl) ?_
  refine lv_iload_n hx hb dX2_init_10 rfl (lv_at hl 2 rfl) ?_
  refine x_putF (C := RX2) (TT := TX2) (N := 3) (ci := 5) (v := .int x1_) (ty := tyX2 1) hx hb hts in_X2_init_RX2 tyX2 tyX2_ok nmX2 hown hK hS (ho1) hAa rfl 1 (by decide) (hts (.fieldLink RX2 15 "Archeloft$Question" "none" "I") (by decide +kernel)) (fun _ h9 => h9) rfl hnm rfl (tyX2_ok 1 (by decide)) rfl rfl (Nat.le_of_ble_eq_true rfl) dX2_init_11 (fun H2 locs2 ho2 hz2 hq2 hS => ?_)
  have ho2 : oc D H2 a 5 [.int x0_, .int x1_, u2] := ho2
  refine lv_aload_n hx hb dX2_init_14 rfl (lv_at hl 0 rfl) ?_
  refine lv_iload_n hx hb dX2_init_15 rfl (lv_at hl 3 rfl) ?_
  refine x_putF (C := RX2) (TT := TX2) (N := 3) (ci := 5) (v := .int x2_) (ty := tyX2 2) hx hb hts in_X2_init_RX2 tyX2 tyX2_ok nmX2 hown hK hS (ho2) hAa rfl 2 (by decide) (hts (.fieldLink RX2 18 "Archeloft$Question" "any" "I") (by decide +kernel)) (fun _ h9 => h9) rfl hnm rfl (tyX2_ok 2 (by decide)) rfl rfl (Nat.le_of_ble_eq_true rfl) dX2_init_16 (fun H3 locs3 ho3 hz3 hq3 hS => ?_)
  have ho3 : oc D H3 a 5 [.int x0_, .int x1_, .int x2_] := ho3
  exact r_v hx hb hrt9 hlk hS (Nat.le_of_ble_eq_true rfl) (Nat.le_of_ble_eq_true rfl) dX2_init_19 (⟨ho3, by rw [hz3, hz2, hz1], fun q9 h9 => (hq3 q9 h9).trans ((hq2 q9 h9).trans (hq1 q9 h9))⟩)
set_option maxRecDepth 100000 in
theorem in_X4_init_RX4 : ∀ w ∈ wsX40, w ∈ wsX4_init := by decide +kernel
set_option maxHeartbeats 4000000 in
set_option maxRecDepth 100000 in
theorem c_X4_init (l : Launch) {D : va_G} {T : Nat → ClassId} {dE mi : Nat} {A : Nat → Prop} {H : Heap} {a : Nat} {u0 u1 u2 : Value} (ho : oc D H a 7 [u0, u1, u2]) (hAa : A a) (x0_ x1_ x2_ : Int32) : vx_Met l yX4_init wsX4_init (rmL 2 0 0) (PcE D T dE mi A H [.ref a, .int x0_, .int x1_, .int x2_]) (QV A (fun H1 => oc D H1 a 7 [.int x0_, .int x1_, .int x2_] ∧ H1.size = H.size ∧ ∀ q : Nat, q ≠ a → H1[q]? = H[q]?)) (XX A (XN)) 0 0 A := by
  refine entry (cc := cX4_init) (maxL := 4) (ret := none) (by decide) rfl (Nat.le_of_ble_eq_true rfl) ?_
  intro p e s m args below meth c hx hb hrt9 hml hown hts hlk hnt hnm hev hS ls hl
  have hown : s.vm.findClass RX4 = some m.cls := hown
  have hK := hev.1
  have hl : lv_has ls 4 [(0, .ref a), (1, .int x0_), (2, .int x1_), (3, .int x2_)] := hl
  refine lv_aload_n hx hb dX4_init_0 rfl (lv_at hl 0 rfl) ?_
  refine W.objInit hx hb hown (hts (.methodLink RX4 3 objectInit) (by decide +kernel)) (hts (.instanceMethod objectInit) (by decide +kernel)) (hts (.code objectInit ⟨#[0xb1]⟩ 1 none) (by decide +kernel)) rfl (by rw [hml]; exact hl.1) rfl dX4_init_1 (Nat.le_of_ble_eq_true rfl) (Nat.le_of_ble_eq_true rfl) ?_
  refine W.eq (g2 := F0 m 4 ls []) rfl ?_
  refine lv_aload_n hx hb dX4_init_4 rfl (lv_at hl 0 rfl) ?_
  refine lv_iload_n hx hb dX4_init_5 rfl (lv_at hl 1 rfl) ?_
  refine x_putF (C := RX4) (TT := TX4) (N := 3) (ci := 7) (v := .int x0_) (ty := tyX4 0) hx hb hts in_X4_init_RX4 tyX4 tyX4_ok nmX4 hown hK hS (ho) hAa rfl 0 (by decide) (hts (.fieldLink RX4 9 "Archeloft$StagedSystem" "reads" "I") (by decide +kernel)) (fun _ h9 => h9) rfl hnm rfl (tyX4_ok 0 (by decide)) rfl rfl (Nat.le_of_ble_eq_true rfl) dX4_init_6 (fun H1 locs1 ho1 hz1 hq1 hS => ?_)
  have ho1 : oc D H1 a 7 [.int x0_, u1, u2] := ho1
  refine lv_aload_n hx hb dX4_init_9 rfl (lv_at hl 0 rfl) ?_
  refine lv_iload_n hx hb dX4_init_10 rfl (lv_at hl 2 rfl) ?_
  refine x_putF (C := RX4) (TT := TX4) (N := 3) (ci := 7) (v := .int x1_) (ty := tyX4 1) hx hb hts in_X4_init_RX4 tyX4 tyX4_ok nmX4 hown hK hS (ho1) hAa rfl 1 (by decide) (hts (.fieldLink RX4 15 "Archeloft$StagedSystem" "writes" "I") (by decide +kernel)) (fun _ h9 => h9) rfl hnm rfl (tyX4_ok 1 (by decide)) rfl rfl (Nat.le_of_ble_eq_true rfl) dX4_init_11 (fun H2 locs2 ho2 hz2 hq2 hS => ?_)
  have ho2 : oc D H2 a 7 [.int x0_, .int x1_, u2] := ho2
  refine lv_aload_n hx hb dX4_init_14 rfl (lv_at hl 0 rfl) ?_
  refine lv_iload_n hx hb dX4_init_15 rfl (lv_at hl 3 rfl) ?_
  refine x_putF (C := RX4) (TT := TX4) (N := 3) (ci := 7) (v := .int x2_) (ty := tyX4 2) hx hb hts in_X4_init_RX4 tyX4 tyX4_ok nmX4 hown hK hS (ho2) hAa rfl 2 (by decide) (hts (.fieldLink RX4 18 "Archeloft$StagedSystem" "stage" "I") (by decide +kernel)) (fun _ h9 => h9) rfl hnm rfl (tyX4_ok 2 (by decide)) rfl rfl (Nat.le_of_ble_eq_true rfl) dX4_init_16 (fun H3 locs3 ho3 hz3 hq3 hS => ?_)
  have ho3 : oc D H3 a 7 [.int x0_, .int x1_, .int x2_] := ho3
  exact r_v hx hb hrt9 hlk hS (Nat.le_of_ble_eq_true rfl) (Nat.le_of_ble_eq_true rfl) dX4_init_19 (⟨ho3, by rw [hz3, hz2, hz1], fun q9 h9 => (hq3 q9 h9).trans ((hq2 q9 h9).trans (hq1 q9 h9))⟩)
set_option maxRecDepth 100000 in
theorem in_X1_isOf_RX1 : ∀ w ∈ wsX10, w ∈ wsX1_isOf := by decide +kernel
set_option maxHeartbeats 4000000 in
set_option maxRecDepth 100000 in
theorem c_X1_isOf (l : Launch) {D : va_G} {T : Nat → ClassId} {dE mi : Nat} {A : Nat → Prop} {H : Heap} {a va ma nn : Nat} {hh : Int32} {tt : Bool} {pp : Option Nat} (ho : oc D H a 4 [.ref va, .ref ma, .int hh, .int (bI tt), va_rf pp, .int (nI nn)]) (x : Int32) : vx_Met l yX1_isOf wsX1_isOf (rmL 0 0 0) (PcE D T dE mi A H [.ref a, .int x]) (QI A (fun r H1 => H1 = H ∧ r = bI (tt && decide (hh = x)))) (XX A (XN)) 0 0 A := by
  refine entry (cc := cX1_isOf) (maxL := 2) (ret := (some .boolean)) (by decide) rfl (Nat.le_of_ble_eq_true rfl) ?_
  intro p e s m args below meth c hx hb hrt9 hml hown hts hlk hnt hnm hev hS ls hl
  have hown : s.vm.findClass RX1 = some m.cls := hown
  have hK := hev.1
  have hl : lv_has ls 2 [(0, .ref a), (1, .int x)] := hl
  refine lv_aload_n hx hb dX1_isOf_0 rfl (lv_at hl 0 rfl) ?_
  refine x_get (C := RX1) (TT := TX1) (N := 6) (ci := 4) (v := .int (bI tt)) hx hb hts in_X1_isOf_RX1 hown hK (ho) rfl 3 (by decide) (hts (.fieldLink RX1 18 "Archeloft$Entity" "there" "Z") (by decide +kernel)) (fun _ h9 => h9) rfl dX1_isOf_1 ?_
  refine y_bif_eq hx hb (tgt := 19) dX1_isOf_4 (by decide) (fun c4 => ?_) (fun c4 => ?_)
  · refine lv_iconst (v := nI 0) hx hb dX1_isOf_19 (by decide) ?_
    exact r_z hx hb hrt9 hlk hS (Nat.le_of_ble_eq_true rfl) (Nat.le_of_ble_eq_true rfl) dX1_isOf_20 rfl (⟨rfl, by rw [c4]; rfl⟩)
  · refine lv_aload_n hx hb dX1_isOf_7 rfl (lv_at hl 0 rfl) ?_
    refine x_get (C := RX1) (TT := TX1) (N := 6) (ci := 4) (v := .int hh) hx hb hts in_X1_isOf_RX1 hown hK (ho) rfl 2 (by decide) (hts (.fieldLink RX1 30 "Archeloft$Entity" "handle" "I") (by decide +kernel)) (fun _ h9 => h9) rfl dX1_isOf_8 ?_
    refine lv_iload_n hx hb dX1_isOf_11 rfl (lv_at hl 1 rfl) ?_
    refine lv_icmp_ne (tgt := 19) hx hb dX1_isOf_12 (by decide) (fun c12 => ?_) (fun c12 => ?_)
    · refine lv_iconst (v := nI 0) hx hb dX1_isOf_19 (by decide) ?_
      exact r_z hx hb hrt9 hlk hS (Nat.le_of_ble_eq_true rfl) (Nat.le_of_ble_eq_true rfl) dX1_isOf_20 rfl (⟨rfl, by rw [c4, decide_eq_false c12]; rfl⟩)
    · refine lv_iconst (v := nI 1) hx hb dX1_isOf_15 (by decide) ?_
      refine lv_goto (tgt := 20) hx hb dX1_isOf_16 (by decide) ?_
      exact r_z hx hb hrt9 hlk hS (Nat.le_of_ble_eq_true rfl) (Nat.le_of_ble_eq_true rfl) dX1_isOf_20 rfl (⟨rfl, by rw [c4, decide_eq_true c12]; rfl⟩)
set_option maxRecDepth 100000 in
theorem in_X1_has_RX1 : ∀ w ∈ wsX10, w ∈ wsX1_has := by decide +kernel
set_option maxHeartbeats 4000000 in
set_option maxRecDepth 100000 in
theorem c_X1_has (l : Launch) {D : va_G} {T : Nat → ClassId} {dE mi : Nat} {A : Nat → Prop} {H : Heap} {a va ma nn : Nat} {hh : Int32} {tt : Bool} {pp : Option Nat} (ho : oc D H a 4 [.ref va, .ref ma, .int hh, .int (bI tt), va_rf pp, .int (nI nn)]) {i : Nat} (hi : i < 6) (hn : nn < 64) : vx_Met l yX1_has wsX1_has (rmL 0 0 0) (PcE D T dE mi A H [.ref a, .int (nI i)]) (QI A (fun r H1 => H1 = H ∧ r = bI (bitS nn i))) (XX A (XN)) 0 0 A := by
  refine entry (cc := cX1_has) (maxL := 2) (ret := (some .boolean)) (by decide) rfl (Nat.le_of_ble_eq_true rfl) ?_
  intro p e s m args below meth c hx hb hrt9 hml hown hts hlk hnt hnm hev hS ls hl
  have hown : s.vm.findClass RX1 = some m.cls := hown
  have hK := hev.1
  have hl : lv_has ls 2 [(0, .ref a), (1, .int (nI i))] := hl
  refine lv_aload_n hx hb dX1_has_0 rfl (lv_at hl 0 rfl) ?_
  refine x_get (C := RX1) (TT := TX1) (N := 6) (ci := 4) (v := .int (nI nn)) hx hb hts in_X1_has_RX1 hown hK (ho) rfl 5 (by decide) (hts (.fieldLink RX1 26 "Archeloft$Entity" "kindSet" "I") (by decide +kernel)) (fun _ h9 => h9) rfl dX1_has_1 ?_
  refine lv_iconst (v := nI 1) hx hb dX1_has_4 (by decide) ?_
  refine lv_iload_n hx hb dX1_has_5 rfl (lv_at hl 1 rfl) ?_
  refine lv_ishl hx hb dX1_has_6 ?_
  refine lv_iand hx hb dX1_has_7 ?_
  refine lv_if_eq (tgt := 15) hx hb dX1_has_8 (by decide) (fun c8 => ?_) (fun c8 => ?_)
  · refine lv_iconst (v := nI 0) hx hb dX1_has_15 (by decide) ?_
    exact r_z hx hb hrt9 hlk hS (Nat.le_of_ble_eq_true rfl) (Nat.le_of_ble_eq_true rfl) dX1_has_16 rfl (⟨rfl, by rw [(bit_has2 nn hn i hi).mp c8]; rfl⟩)
  · refine lv_iconst (v := nI 1) hx hb dX1_has_11 (by decide) ?_
    refine lv_goto (tgt := 16) hx hb dX1_has_12 (by decide) ?_
    exact r_z hx hb hrt9 hlk hS (Nat.le_of_ble_eq_true rfl) (Nat.le_of_ble_eq_true rfl) dX1_has_16 rfl (⟨rfl, by rw [show bitS nn i = true from by cases q : bitS nn i with | true => rfl | false => exact absurd ((bit_has2 nn hn i hi).mpr q) c8]; rfl⟩)
set_option maxRecDepth 100000 in
theorem in_X1_put_RX1 : ∀ w ∈ wsX10, w ∈ wsX1_put := by decide +kernel
set_option maxHeartbeats 4000000 in
set_option maxRecDepth 100000 in
theorem c_X1_put (l : Launch) {D : va_G} {T : Nat → ClassId} {dE mi : Nat} {A : Nat → Prop} {H : Heap} {a va ma nn : Nat} {hh : Int32} {tt : Bool} {pp : Option Nat} (ho : oc D H a 4 [.ref va, .ref ma, .int hh, .int (bI tt), va_rf pp, .int (nI nn)]) {fv fm : Nat → Int32} (hv : ic (T 0) H va 6 fv) (hm : ic (T 0) H ma 6 fm) (hvm : va ≠ ma) (hAv : A va) (hAm : A ma) (hav : va ≠ a ∧ ma ≠ a) {i : Nat} (hi : i < 6) (x t : Int32) : vx_Met l yX1_put wsX1_put (rmL 0 0 0) (PcE D T dE mi A H [.ref a, .int (nI i), .int x, .int t]) (QV A (fun H1 => ic (T 0) H1 va 6 (upd fv i x) ∧ ic (T 0) H1 ma 6 (upd fm i t) ∧ H1.size = H.size ∧ ∀ q : Nat, q ≠ va → q ≠ ma → H1[q]? = H[q]?)) (XX A (XN)) 0 0 A := by
  refine entry (cc := cX1_put) (maxL := 4) (ret := none) (by decide) rfl (Nat.le_of_ble_eq_true rfl) ?_
  intro p e s m args below meth c hx hb hrt9 hml hown hts hlk hnt hnm hev hS ls hl
  have hown : s.vm.findClass RX1 = some m.cls := hown
  have hK := hev.1
  have hl : lv_has ls 4 [(0, .ref a), (1, .int (nI i)), (2, .int x), (3, .int t)] := hl
  refine lv_aload_n hx hb dX1_put_0 rfl (lv_at hl 0 rfl) ?_
  refine x_get (C := RX1) (TT := TX1) (N := 6) (ci := 4) (v := .ref va) hx hb hts in_X1_put_RX1 hown hK (ho) rfl 0 (by decide) (hts (.fieldLink RX1 9 "Archeloft$Entity" "values" "[I") (by decide +kernel)) (fun _ h9 => h9) rfl dX1_put_1 ?_
  refine lv_iload_n hx hb dX1_put_4 rfl (lv_at hl 1 rfl) ?_
  refine lv_iload_n hx hb dX1_put_5 rfl (lv_at hl 2 rfl) ?_
  refine x_iast (i := i) (x := x) hx hb hK hS hv hAv (by omega) (by decide) dX1_put_6 (fun H1 locs1 hg1 hz1 hq1 hS => ?_)
  have ho := ho.kept (hq1 _ (Ne.symm hav.1))
  have hm := hm.kept (hq1 _ (Ne.symm hvm))
  refine lv_aload_n hx hb dX1_put_7 rfl (lv_at hl 0 rfl) ?_
  refine x_get (C := RX1) (TT := TX1) (N := 6) (ci := 4) (v := .ref ma) hx hb hts in_X1_put_RX1 hown hK (ho) rfl 1 (by decide) (hts (.fieldLink RX1 15 "Archeloft$Entity" "marks" "[I") (by decide +kernel)) (fun _ h9 => h9) rfl dX1_put_8 ?_
  refine lv_iload_n hx hb dX1_put_11 rfl (lv_at hl 1 rfl) ?_
  refine lv_iload_n hx hb dX1_put_12 rfl (lv_at hl 3 rfl) ?_
  refine x_iast (i := i) (x := t) hx hb hK hS hm hAm (by omega) (by decide) dX1_put_13 (fun H2 locs2 hg2 hz2 hq2 hS => ?_)
  exact r_v hx hb hrt9 hlk hS (Nat.le_of_ble_eq_true rfl) (Nat.le_of_ble_eq_true rfl) dX1_put_14 (⟨hg1.kept (hq2 _ hvm), hg2, by rw [hz2, hz1], fun q9 h9 h8 => (hq2 q9 h8).trans (hq1 q9 h9)⟩)
def mkF (n : Nat) (fm : Nat → Int32) (t : Int32) : Nat → Bool
  | 0 => false
  | i + 1 => mkF n fm t i || (bitS n i && decide (t < fm i))
theorem mkF_up {n : Nat} {fm : Nat → Int32} {t : Int32} {i : Nat} (h1 : bitS n i = true) (h2 : t < fm i) : ∀ m, mkF n fm t (i + 1 + m) = true := by
  intro m
  induction m with
  | zero => show (mkF n fm t i || (bitS n i && decide (t < fm i))) = true; rw [h1, decide_eq_true h2]; simp
  | succ m ih => show (mkF n fm t (i + 1 + m) || _) = true; rw [ih]; rfl
theorem mkF_no {n : Nat} {fm : Nat → Int32} {t : Int32} {i : Nat} (h : mkF n fm t i = false) (h2 : bitS n i = false ∨ ¬ t < fm i) : mkF n fm t (i + 1) = false := by
  show (mkF n fm t i || (bitS n i && decide (t < fm i))) = false
  rw [h]
  rcases h2 with h2 | h2
  · rw [h2]; rfl
  · rw [decide_eq_false h2, Bool.and_false]; rfl
theorem bitS_t {x : Bool} (h : ¬ x = false) : x = true := by
  cases x with
  | true => rfl
  | false => exact absurd rfl h
set_option maxRecDepth 100000 in
theorem in_X1_isMarkedAfter_RX1 : ∀ w ∈ wsX10, w ∈ wsX1_isMarkedAfter := by decide +kernel
set_option maxHeartbeats 4000000 in
set_option maxRecDepth 100000 in
theorem c_X1_isMarkedAfter (l : Launch) {D : va_G} {T : Nat → ClassId} {dE mi : Nat} {A : Nat → Prop} {H : Heap} {a va ma nn : Nat} {hh : Int32} {tt : Bool} {pp : Option Nat} (ho : oc D H a 4 [.ref va, .ref ma, .int hh, .int (bI tt), va_rf pp, .int (nI nn)]) {fm : Nat → Int32} (hm : ic (T 0) H ma 6 fm) (hn : nn < 64) (t : Int32) : vx_Met l yX1_isMarkedAfter wsX1_isMarkedAfter (rmL 1 0 0) (PcE D T dE mi A H [.ref a, .int t]) (QI A (fun r H1 => H1 = H ∧ r = bI (mkF nn fm t 6))) (XX A (XN)) 0 0 A := by
  refine entry (cc := cX1_isMarkedAfter) (maxL := 3) (ret := (some .boolean)) (by decide) rfl (Nat.le_of_ble_eq_true rfl) ?_
  intro p e s m args below meth c hx hb hrt9 hml hown hts hlk hnt hnm hev hS ls hl
  have hown : s.vm.findClass RX1 = some m.cls := hown
  have hK := hev.1
  have hl : lv_has ls 3 [(0, .ref a), (1, .int t)] := hl
  refine lv_iconst (v := nI 0) hx hb dX1_isMarkedAfter_0 (by decide) ?_
  refine lv_istore_n (lv' := [(2, .int (nI 0)), (0, .ref a), (1, .int t)]) hx hb dX1_isMarkedAfter_1 rfl hl (by decide) rfl (fun ls hl => ?_)
  have loop2 : ∀ (n : Nat) (i : Nat) (locs9 : List Loc), 6 - i < n → (i ≤ 6) → (mkF nn fm t i = false) → (va_S A s.heap H locs9) → ∀ (ls : Array Slot), lv_has ls 3 [(2, .int (nI i)), (0, .ref a), (1, .int t)] → W p l e (rmL 1 0 0) s m args below meth c H locs9 (0) (0) (vx_MQ below (QI A (fun r H1 => H1 = H ∧ r = bI (mkF nn fm t 6))) (XX A (XN)) args s 0 0 A) (F0 m 2 ls []) := by
    intro n
    induction n with
    | zero => intro i locs9 hfuel; exact absurd hfuel (Nat.not_lt_zero _)
    | succ n ih2 =>
      intro i locs9 hfuel hi hno hS ls hl
      refine lv_iload_n hx hb dX1_isMarkedAfter_2 rfl (lv_at hl 0 rfl) ?_
      refine lv_bipush (v := nI 6) hx hb dX1_isMarkedAfter_3 (by decide) ?_
      refine y_icmp_ge hx hb (by omega) (Nat.le_of_ble_eq_true rfl) (tgt := 34) dX1_isMarkedAfter_5 (by decide) (fun c5 => ?_) (fun c5 => ?_)
      · refine lv_iconst (v := nI 0) hx hb dX1_isMarkedAfter_34 (by decide) ?_
        exact r_z hx hb hrt9 hlk hS (Nat.le_of_ble_eq_true rfl) (Nat.le_of_ble_eq_true rfl) dX1_isMarkedAfter_35 rfl (⟨rfl, by rw [show 6 = i by omega, hno]; rfl⟩)
      · refine lv_aload_n hx hb dX1_isMarkedAfter_8 rfl (lv_at hl 1 rfl) ?_
        refine lv_iload_n hx hb dX1_isMarkedAfter_9 rfl (lv_at hl 0 rfl) ?_
        refine k_ip (k_V (As := [.int (nI i)]) (rest := []) ⟨hx, hb, hml, hown, hts⟩ hev hS (c_X1_has l ho (i := i) (by omega) hn) (cwV 1 hts gX1_isMarkedAfter_X1_has rfl rfl rfl (by decide +kernel) ⟨Nat.le_of_ble_eq_true rfl, Nat.le_of_ble_eq_true rfl⟩) (x_recv hK ho rfl) rfl hl.1 (Nat.le_of_ble_eq_true rfl) dX1_isMarkedAfter_10 (Nat.le_of_ble_eq_true rfl) (Nat.le_of_ble_eq_true rfl)) hS hnt hlk (fun _ _ h _ => h.elim) (Nat.le_of_ble_eq_true rfl) (Nat.le_of_ble_eq_true rfl) (fun rq1_ H1 locs1 hP hz1 hS => ?_)
        refine W.widen (k := 0) (n := 0) (Nat.le_refl _) (Nat.le_refl _) ?_
        obtain ⟨eH, er⟩ := hP
        have eH := eH.symm
        subst eH
        refine x_top (y := (bI (bitS nn i))) (er) ?_
        refine y_bif_eq hx hb (tgt := 28) dX1_isMarkedAfter_13 (by decide) (fun c13 => ?_) (fun c13 => ?_)
        · refine lv_iinc (v := (nI (i + 1))) (lv' := [(2, .int (nI (i + 1))), (0, .ref a), (1, .int t)]) hx hb dX1_isMarkedAfter_28 hl (k := 0) rfl (nI_inc _) (by decide) rfl (fun ls hl => ?_)
          refine lv_goto (tgt := 2) hx hb dX1_isMarkedAfter_31 (by decide) ?_
          exact ih2 (i + 1) locs1 (by omega) (by omega) (mkF_no hno (Or.inl c13)) hS ls (lv_sub hl [0, 1, 2] rfl)
        · refine lv_aload_n hx hb dX1_isMarkedAfter_16 rfl (lv_at hl 1 rfl) ?_
          refine x_get (C := RX1) (TT := TX1) (N := 6) (ci := 4) (v := .ref ma) hx hb hts in_X1_isMarkedAfter_RX1 hown hK (ho) rfl 1 (by decide) (hts (.fieldLink RX1 15 "Archeloft$Entity" "marks" "[I") (by decide +kernel)) (fun _ h9 => h9) rfl dX1_isMarkedAfter_17 ?_
          refine lv_iload_n hx hb dX1_isMarkedAfter_20 rfl (lv_at hl 0 rfl) ?_
          refine x_iald (i := i) hx hb hK hm (by omega) (by decide) dX1_isMarkedAfter_21 ?_
          refine lv_iload_n hx hb dX1_isMarkedAfter_22 rfl (lv_at hl 2 rfl) ?_
          refine lv_icmp_le (tgt := 28) hx hb dX1_isMarkedAfter_23 (by decide) (fun c23 => ?_) (fun c23 => ?_)
          · refine lv_iinc (v := (nI (i + 1))) (lv' := [(2, .int (nI (i + 1))), (0, .ref a), (1, .int t)]) hx hb dX1_isMarkedAfter_28 hl (k := 0) rfl (nI_inc _) (by decide) rfl (fun ls hl => ?_)
            refine lv_goto (tgt := 2) hx hb dX1_isMarkedAfter_31 (by decide) ?_
            exact ih2 (i + 1) locs1 (by omega) (by omega) (mkF_no hno (Or.inr (Int32.not_lt.mpr c23))) hS ls (lv_sub hl [0, 1, 2] rfl)
          · have hyes := mkF_up c13 (Int32.not_le.mp c23) (5 - i)
            refine lv_iconst (v := nI 1) hx hb dX1_isMarkedAfter_26 (by decide) ?_
            exact r_z hx hb hrt9 hlk hS (Nat.le_of_ble_eq_true rfl) (Nat.le_of_ble_eq_true rfl) dX1_isMarkedAfter_27 rfl (⟨rfl, by rw [show 6 = i + 1 + (5 - i) by omega, hyes]; rfl⟩)
  exact loop2 (6 + 1) 0 [] (Nat.lt_succ_self _) (by omega) rfl hS ls (lv_sub hl [0, 1, 2] rfl)
set_option maxRecDepth 100000 in
theorem in_X1_freeSlot_RX1 : ∀ w ∈ wsX10, w ∈ wsX1_freeSlot := by decide +kernel
set_option maxHeartbeats 4000000 in
set_option maxRecDepth 100000 in
theorem c_X1_freeSlot (l : Launch) {D : va_G} {T : Nat → ClassId} {dE mi : Nat} {A : Nat → Prop} {H : Heap} {a va ma nn : Nat} {hh : Int32} {tt : Bool} {pp : Option Nat} (ho : oc D H a 4 [.ref va, .ref ma, .int hh, .int (bI tt), va_rf pp, .int (nI nn)]) (hAa : A a) : vx_Met l yX1_freeSlot wsX1_freeSlot (rmL 0 0 0) (PcE D T dE mi A H [.ref a]) (QV A (fun H1 => oc D H1 a 4 [.ref va, .ref ma, .int (hh + nI 32), .int (bI false), .null, .int (nI 0)] ∧ H1.size = H.size ∧ ∀ q : Nat, q ≠ a → H1[q]? = H[q]?)) (XX A (XN)) 0 0 A := by
  refine entry (cc := cX1_freeSlot) (maxL := 1) (ret := none) (by decide) rfl (Nat.le_of_ble_eq_true rfl) ?_
  intro p e s m args below meth c hx hb hrt9 hml hown hts hlk hnt hnm hev hS ls hl
  have hown : s.vm.findClass RX1 = some m.cls := hown
  have hK := hev.1
  have hl : lv_has ls 1 [(0, .ref a)] := hl
  refine lv_aload_n hx hb dX1_freeSlot_0 rfl (lv_at hl 0 rfl) ?_
  refine lv_iconst (v := nI 0) hx hb dX1_freeSlot_1 (by decide) ?_
  refine x_put (C := RX1) (TT := TX1) (N := 6) (ci := 4) (v := .int (nI 0)) (ty := tyX1 3) hx hb hts in_X1_freeSlot_RX1 tyX1 tyX1_ok nmX1 hown hK hS (ho) hAa rfl 3 (by decide) (hts (.fieldLink RX1 18 "Archeloft$Entity" "there" "Z") (by decide +kernel)) (fun _ h9 => h9) rfl (tyX1_ok 3 (by decide)) rfl rfl (Nat.le_of_ble_eq_true rfl) dX1_freeSlot_2 (fun H1 locs1 ho1 hz1 hq1 hS => ?_)
  have ho1 : oc D H1 a 4 [.ref va, .ref ma, .int hh, .int (nI 0), va_rf pp, .int (nI nn)] := ho1
  refine lv_aload_n hx hb dX1_freeSlot_5 rfl (lv_at hl 0 rfl) ?_
  refine lv_dup hx hb dX1_freeSlot_6 rfl ?_
  refine x_get (C := RX1) (TT := TX1) (N := 6) (ci := 4) (v := .int hh) hx hb hts in_X1_freeSlot_RX1 hown hK (ho1) rfl 2 (by decide) (hts (.fieldLink RX1 30 "Archeloft$Entity" "handle" "I") (by decide +kernel)) (fun _ h9 => h9) rfl dX1_freeSlot_7 ?_
  refine lv_bipush (v := nI 32) hx hb dX1_freeSlot_10 (by decide) ?_
  refine lv_iadd hx hb dX1_freeSlot_12 ?_
  refine x_put (C := RX1) (TT := TX1) (N := 6) (ci := 4) (v := .int (hh + (nI 32))) (ty := tyX1 2) hx hb hts in_X1_freeSlot_RX1 tyX1 tyX1_ok nmX1 hown hK hS (ho1) hAa rfl 2 (by decide) (hts (.fieldLink RX1 30 "Archeloft$Entity" "handle" "I") (by decide +kernel)) (fun _ h9 => h9) rfl (tyX1_ok 2 (by decide)) rfl rfl (Nat.le_of_ble_eq_true rfl) dX1_freeSlot_13 (fun H2 locs2 ho2 hz2 hq2 hS => ?_)
  have ho2 : oc D H2 a 4 [.ref va, .ref ma, .int (hh + (nI 32)), .int (nI 0), va_rf pp, .int (nI nn)] := ho2
  refine lv_aload_n hx hb dX1_freeSlot_16 rfl (lv_at hl 0 rfl) ?_
  refine lv_null hx hb dX1_freeSlot_17 ?_
  refine x_put (C := RX1) (TT := TX1) (N := 6) (ci := 4) (v := .null) (ty := tyX1 4) hx hb hts in_X1_freeSlot_RX1 tyX1 tyX1_ok nmX1 hown hK hS (ho2) hAa rfl 4 (by decide) (hts (.fieldLink RX1 22 "Archeloft$Entity" "parent" "LArcheloft$Entity;") (by decide +kernel)) (fun _ h9 => h9) rfl (tyX1_ok 4 (by decide)) rfl rfl (Nat.le_of_ble_eq_true rfl) dX1_freeSlot_18 (fun H3 locs3 ho3 hz3 hq3 hS => ?_)
  have ho3 : oc D H3 a 4 [.ref va, .ref ma, .int (hh + (nI 32)), .int (nI 0), .null, .int (nI nn)] := ho3
  refine lv_aload_n hx hb dX1_freeSlot_21 rfl (lv_at hl 0 rfl) ?_
  refine lv_iconst (v := nI 0) hx hb dX1_freeSlot_22 (by decide) ?_
  refine x_put (C := RX1) (TT := TX1) (N := 6) (ci := 4) (v := .int (nI 0)) (ty := tyX1 5) hx hb hts in_X1_freeSlot_RX1 tyX1 tyX1_ok nmX1 hown hK hS (ho3) hAa rfl 5 (by decide) (hts (.fieldLink RX1 26 "Archeloft$Entity" "kindSet" "I") (by decide +kernel)) (fun _ h9 => h9) rfl (tyX1_ok 5 (by decide)) rfl rfl (Nat.le_of_ble_eq_true rfl) dX1_freeSlot_23 (fun H4 locs4 ho4 hz4 hq4 hS => ?_)
  have ho4 : oc D H4 a 4 [.ref va, .ref ma, .int (hh + (nI 32)), .int (nI 0), .null, .int (nI 0)] := ho4
  exact r_v hx hb hrt9 hlk hS (Nat.le_of_ble_eq_true rfl) (Nat.le_of_ble_eq_true rfl) dX1_freeSlot_26 (⟨ho4, by rw [hz4, hz3, hz2, hz1], fun q9 h9 => (hq4 q9 h9).trans ((hq3 q9 h9).trans ((hq2 q9 h9).trans (hq1 q9 h9)))⟩)

set_option maxRecDepth 100000 in
theorem in_X6_rows_RX6 : ∀ w ∈ wsX60, w ∈ wsX6_rows := by decide +kernel
set_option maxHeartbeats 4000000 in
set_option maxRecDepth 100000 in
theorem c_X6_rows (l : Launch) {D : va_G} {T : Nat → ClassId} {dE mi : Nat} (hst : l.stackTraces = false) {A : Nat → Prop} {H : Heap} {b0 : Nat} {tg : Nat → Nat} {wo : Option Nat} {tk : Int32} (hX : PX D T b0 H wo tk) {R : mR} {y : mLy} (hR : RepR D T dE b0 tg H R y) : vx_Met l yX6_rows wsX6_rows (rmL 1 0 0) (PcE D T dE mi A H [.ref b0]) (QI A (fun r H1 => H1 = H ∧ r = nI (rN R))) (XX A (XN)) 0 0 A := by
  refine entry (cc := cX6_rows) (maxL := 1) (ret := (some .int)) (by decide) rfl (Nat.le_of_ble_eq_true rfl) ?_
  intro p e s m args below meth c hx hb hrt9 hml hown hts hlk hnt hnm hev hS ls hl
  have hown : s.vm.findClass RX6 = some m.cls := hown
  have hK := hev.1
  have hl : lv_has ls 1 [(0, .ref b0)] := hl
  refine lv_aload_n hx hb dX6_rows_0 rfl (lv_at hl 0 rfl) ?_
  refine x_get (C := RX6) (TT := TX6) (N := 6) (ci := 9) (v := .ref ((b0 + 2))) hx hb hts in_X6_rows_RX6 hown hK (hX.1) rfl 1 (by decide) (hts (.fieldLink RX6 18 "Archeloft" "rowList" "Ljava/util/ArrayList;") (by decide +kernel)) (fun _ h9 => h9) rfl dX6_rows_1 ?_
  refine k_ip (k_V (As := []) (rest := []) ⟨hx, hb, hml, hown, hts⟩ hev hS (c_Jx4a65c_size_8abf5 l hR.1.1) (cwV 0 hts gX6_rows_Jx4a65c_size_8abf5 rfl rfl rfl (by decide +kernel) ⟨Nat.le_of_ble_eq_true rfl, Nat.le_of_ble_eq_true rfl⟩) (x_recv hK ((hR.1.1.rec).choose_spec) rfl) rfl hl.1 (Nat.le_of_ble_eq_true rfl) dX6_rows_4 (Nat.le_of_ble_eq_true rfl) (Nat.le_of_ble_eq_true rfl)) hS hnt hlk (fun _ _ h _ => h.elim) (Nat.le_of_ble_eq_true rfl) (Nat.le_of_ble_eq_true rfl) (fun rq1_ H1 locs1 hP hz1 hS => ?_)
  refine W.widen (k := 0) (n := 0) (Nat.le_refl _) (Nat.le_refl _) ?_
  obtain ⟨eH, er⟩ := hP
  have eH := eH.symm
  subst eH
  refine x_top (y := (nI ((rN R)))) (er) ?_
  exact r_i hx hb hrt9 hlk hS (Nat.le_of_ble_eq_true rfl) (Nat.le_of_ble_eq_true rfl) dX6_rows_7 (⟨rfl, rfl⟩)
set_option maxRecDepth 100000 in
theorem ta_X6_rowNumbered_217 : ∀ w ∈ (vx_atS RX6 217 "java/lang/IndexOutOfBoundsException" ["java/lang/RuntimeException", "java/lang/Exception"]).filter goodWord, w ∈ wsX6_rowNumbered := by decide +kernel
set_option maxRecDepth 100000 in
theorem in_X6_rowNumbered_RX6 : ∀ w ∈ wsX60, w ∈ wsX6_rowNumbered := by decide +kernel
set_option maxHeartbeats 4000000 in
set_option maxRecDepth 100000 in
theorem c_X6_rowNumbered (l : Launch) {D : va_G} {T : Nat → ClassId} {dE mi : Nat} (hst : l.stackTraces = false) {A : Nat → Prop} {H : Heap} {b0 : Nat} {tg : Nat → Nat} {wo : Option Nat} {tk : Int32} (hX : PX D T b0 H wo tk) {R : mR} {y : mLy} (hR : RepR D T dE b0 tg H R y) (x : Int32) : vx_Met l yX6_rowNumbered wsX6_rowNumbered (rmL 6 1 6) (PcE D T dE mi A H [.ref b0, .int x]) (QQ A (fun r H1 => H1 = H ∧ ∃ j, x = nI j ∧ j < rN R ∧ r = some (yW y j))) (XX A (XE H (fun E9 => E9 = "java/lang/IndexOutOfBoundsException" ∧ inB x (rN R) = false))) 1 6 A := by
  refine entry (cc := cX6_rowNumbered) (maxL := 2) (ret := (some (.object "Archeloft$Row"))) (by decide) rfl (Nat.le_of_ble_eq_true rfl) ?_
  intro p e s m args below meth c hx hb hrt9 hml hown hts hlk hnt hnm hev hS ls hl
  have hown : s.vm.findClass RX6 = some m.cls := hown
  have hK := hev.1
  have hl : lv_has ls 2 [(0, .ref b0), (1, .int x)] := hl
  have hcap9 := hR.1.1.2.1
  have hcap8 := hR.1.1.2.2.1
  refine lv_iload_n hx hb dX6_rowNumbered_0 rfl (lv_at hl 1 rfl) ?_
  refine lv_if_lt (tgt := 15) hx hb dX6_rowNumbered_1 (by decide) (fun c1 => ?_) (fun c1 => ?_)
  · exact k_thrW (cls := "java/lang/IndexOutOfBoundsException") (text := "there is no such row") (ik := 213) (is := 256) (ic := 217) hx hb hst hown hev hS (by decide +kernel) (hts (.classLink RX6 213 "java/lang/IndexOutOfBoundsException") (by decide +kernel)) (hts (.initialized "java/lang/IndexOutOfBoundsException") (by decide +kernel)) (by decide +kernel) (by decide +kernel) (fun w h => hts w (ta_X6_rowNumbered_217 w h)) (by decide +kernel) (by decide +kernel) (hl.1.trans hml.symm) dX6_rowNumbered_15 dX6_rowNumbered_18 dX6_rowNumbered_19 dX6_rowNumbered_22 dX6_rowNumbered_25 hnt (Nat.le_of_ble_eq_true rfl) (Nat.le_of_ble_eq_true rfl) (Nat.le_of_ble_eq_true rfl) (Nat.le_of_ble_eq_true rfl) hlk ((fun H1 h1 h2 => ⟨⟨rfl, inB_neg c1⟩, h1, h2⟩)) (Nat.le_of_ble_eq_true rfl) (Nat.le_of_ble_eq_true rfl)
  · refine lv_iload_n hx hb dX6_rowNumbered_4 rfl (lv_at hl 1 rfl) ?_
    refine lv_aload_n hx hb dX6_rowNumbered_5 rfl (lv_at hl 0 rfl) ?_
    refine x_get (C := RX6) (TT := TX6) (N := 6) (ci := 9) (v := .ref ((b0 + 2))) hx hb hts in_X6_rowNumbered_RX6 hown hK (hX.1) rfl 1 (by decide) (hts (.fieldLink RX6 18 "Archeloft" "rowList" "Ljava/util/ArrayList;") (by decide +kernel)) (fun _ h9 => h9) rfl dX6_rowNumbered_6 ?_
    refine k_ip (k_V (As := []) (rest := [.int x]) ⟨hx, hb, hml, hown, hts⟩ hev hS (c_Jx4a65c_size_8abf5 l hR.1.1) (cwV 0 hts gX6_rowNumbered_Jx4a65c_size_8abf5 rfl rfl rfl (by decide +kernel) ⟨Nat.le_of_ble_eq_true rfl, Nat.le_of_ble_eq_true rfl⟩) (x_recv hK ((hR.1.1.rec).choose_spec) rfl) rfl hl.1 (Nat.le_of_ble_eq_true rfl) dX6_rowNumbered_9 (Nat.le_of_ble_eq_true rfl) (Nat.le_of_ble_eq_true rfl)) hS hnt hlk (fun _ _ h _ => h.elim) (Nat.le_of_ble_eq_true rfl) (Nat.le_of_ble_eq_true rfl) (fun rq1_ H1 locs1 hP hz1 hS => ?_)
    refine W.widen (k := 0) (n := 0) (Nat.le_refl _) (Nat.le_refl _) ?_
    obtain ⟨eH, er⟩ := hP
    have eH := eH.symm
    subst eH
    refine x_top (y := (nI ((rN R)))) (er) ?_
    refine lv_icmp_lt (tgt := 26) hx hb dX6_rowNumbered_12 (by decide) (fun c12 => ?_) (fun c12 => ?_)
    · have hin : inB x (rN R) = true := decide_eq_true ⟨i32_nlt c1, c12⟩
      obtain ⟨j1, hj1, hxj⟩ := inB_of (by omega) hin
      have hl : lv_has ls 2 [(0, .ref b0), (1, .int (nI j1))] := by
        have e9 : x = (nI j1) := hxj
        rw [← e9]; exact hl
      refine lv_aload_n hx hb dX6_rowNumbered_26 rfl (lv_at hl 0 rfl) ?_
      refine x_get (C := RX6) (TT := TX6) (N := 6) (ci := 9) (v := .ref ((b0 + 2))) hx hb hts in_X6_rowNumbered_RX6 hown hK (hX.1) rfl 1 (by decide) (hts (.fieldLink RX6 18 "Archeloft" "rowList" "Ljava/util/ArrayList;") (by decide +kernel)) (fun _ h9 => h9) rfl dX6_rowNumbered_27 ?_
      refine lv_iload_n hx hb dX6_rowNumbered_30 rfl (lv_at hl 1 rfl) ?_
      refine k_qp (k_V (As := [.int (nI j1)]) (rest := []) ⟨hx, hb, hml, hown, hts⟩ hev hS (c_Jx4a65c_get_915e3 l hR.1.1 (i := j1) (hj1)) (cwV 1 hts gX6_rowNumbered_Jx4a65c_get_915e3 rfl rfl rfl (by decide +kernel) ⟨Nat.le_of_ble_eq_true rfl, Nat.le_of_ble_eq_true rfl⟩) (x_recv hK ((hR.1.1.rec).choose_spec) rfl) rfl hl.1 (Nat.le_of_ble_eq_true rfl) dX6_rowNumbered_31 (Nat.le_of_ble_eq_true rfl) (Nat.le_of_ble_eq_true rfl)) hS hnt hlk (fun _ _ h _ => h.elim) (Nat.le_of_ble_eq_true rfl) (Nat.le_of_ble_eq_true rfl) (fun rq2_ H2 locs2 hP hz2 hS => ?_)
      refine W.widen (k := 0) (n := 0) (Nat.le_refl _) (Nat.le_refl _) ?_
      obtain ⟨eH, er⟩ := hP
      have eH := eH.symm
      subst eH
      refine x_tov (y := .ref ((yW y j1))) (by rw [er]; rfl) ?_
      refine va_castE hx hb hown (hts (.classLink RX6 55 "Archeloft$Row") (by decide +kernel)) (x_recv hK (hR.2 j1 hj1).1 rfl) dX6_rowNumbered_34 ?_
      exact r_q (r := some (yW y j1)) hx hb hrt9 (Or.inl ⟨_, rfl⟩) hlk hS (Nat.le_of_ble_eq_true rfl) (Nat.le_of_ble_eq_true rfl) dX6_rowNumbered_37 (⟨rfl, j1, hxj, hj1, rfl⟩)
    · exact k_thrW (cls := "java/lang/IndexOutOfBoundsException") (text := "there is no such row") (ik := 213) (is := 256) (ic := 217) hx hb hst hown hev hS (by decide +kernel) (hts (.classLink RX6 213 "java/lang/IndexOutOfBoundsException") (by decide +kernel)) (hts (.initialized "java/lang/IndexOutOfBoundsException") (by decide +kernel)) (by decide +kernel) (by decide +kernel) (fun w h => hts w (ta_X6_rowNumbered_217 w h)) (by decide +kernel) (by decide +kernel) (hl.1.trans hml.symm) dX6_rowNumbered_15 dX6_rowNumbered_18 dX6_rowNumbered_19 dX6_rowNumbered_22 dX6_rowNumbered_25 hnt (Nat.le_of_ble_eq_true rfl) (Nat.le_of_ble_eq_true rfl) (Nat.le_of_ble_eq_true rfl) (Nat.le_of_ble_eq_true rfl) hlk ((fun H1 h1 h2 => ⟨⟨rfl, decide_eq_false (fun z => absurd z.2 c12)⟩, h1, h2⟩)) (Nat.le_of_ble_eq_true rfl) (Nat.le_of_ble_eq_true rfl)
set_option maxRecDepth 100000 in
theorem in_X6_setOf_RX3 : ∀ w ∈ wsX30, w ∈ wsX6_setOf := by decide +kernel
set_option maxHeartbeats 4000000 in
set_option maxRecDepth 100000 in
theorem c_X6_setOf (l : Launch) {D : va_G} {T : Nat → ClassId} {dE mi : Nat} (hst : l.stackTraces = false) {A : Nat → Prop} {H : Heap} {b0 : Nat} {tg : Nat → Nat} {wo : Option Nat} {tk : Int32} (hX : PX D T b0 H wo tk) {R : mR} {y : mLy} (hR : RepR D T dE b0 tg H R y) (x : Int32) : vx_Met l yX6_setOf wsX6_setOf (rmL 7 1 6) (PcE D T dE mi A H [.ref b0, .int x]) (QI A (fun r H1 => H1 = H ∧ ∃ j, x = nI j ∧ j < rN R ∧ r = nI (rS R j))) (XX A (XE H (fun E9 => E9 = "java/lang/IndexOutOfBoundsException" ∧ inB x (rN R) = false))) 1 6 A := by
  refine entry (cc := cX6_setOf) (maxL := 2) (ret := (some .int)) (by decide) rfl (Nat.le_of_ble_eq_true rfl) ?_
  intro p e s m args below meth c hx hb hrt9 hml hown hts hlk hnt hnm hev hS ls hl
  have hown : s.vm.findClass RX6 = some m.cls := hown
  have hK := hev.1
  have hl : lv_has ls 2 [(0, .ref b0), (1, .int x)] := hl
  refine lv_aload_n hx hb dX6_setOf_0 rfl (lv_at hl 0 rfl) ?_
  refine lv_iload_n hx hb dX6_setOf_1 rfl (lv_at hl 1 rfl) ?_
  refine k_qp (k_V (As := [.int x]) (rest := []) ⟨hx, hb, hml, hown, hts⟩ hev hS (c_X6_rowNumbered l hst hX hR x) (cwV 1 hts gX6_setOf_X6_rowNumbered rfl rfl rfl (by decide +kernel) ⟨Nat.le_of_ble_eq_true rfl, Nat.le_of_ble_eq_true rfl⟩) (x_recv hK hX.1 rfl) rfl hl.1 (Nat.le_of_ble_eq_true rfl) dX6_setOf_2 (Nat.le_of_ble_eq_true rfl) (Nat.le_of_ble_eq_true rfl)) hS hnt hlk (fun E9 H9 h9 z9 => h9) (Nat.le_of_ble_eq_true rfl) (Nat.le_of_ble_eq_true rfl) (fun rq1_ H1 locs1 hP hz1 hS => ?_)
  obtain ⟨eH, j1, hxj, hj1, er⟩ := hP
  have eH := eH.symm
  subst eH
  refine x_tov (y := .ref ((yW y j1))) (by rw [er]; rfl) ?_
  obtain ⟨hro, hrt, hrl⟩ := hR.2 j1 hj1
  refine x_getN (C := RX3) (TT := TX3) (N := 2) (ci := 6) (v := .int (nI ((rS R j1)))) hx hb hts in_X6_setOf_RX3 hown hK (hro) rfl 0 (by decide) (hev.2.2.2.2.1.2 ("Archeloft", 142, "Archeloft$Row", "kindSet", "I") (by decide +kernel)) (fun _ h9 => h9) rfl dX6_setOf_5 ?_
  exact r_i hx hb hrt9 hlk hS (Nat.le_of_ble_eq_true rfl) (Nat.le_of_ble_eq_true rfl) dX6_setOf_8 (⟨rfl, j1, hxj, hj1, rfl⟩)
set_option maxRecDepth 100000 in
theorem in_X6_size_RX3 : ∀ w ∈ wsX30, w ∈ wsX6_size := by decide +kernel
set_option maxHeartbeats 4000000 in
set_option maxRecDepth 100000 in
theorem c_X6_size (l : Launch) {D : va_G} {T : Nat → ClassId} {dE mi : Nat} (hst : l.stackTraces = false) {A : Nat → Prop} {H : Heap} {b0 : Nat} {tg : Nat → Nat} {wo : Option Nat} {tk : Int32} (hX : PX D T b0 H wo tk) {R : mR} {y : mLy} (hR : RepR D T dE b0 tg H R y) (x : Int32) : vx_Met l yX6_size wsX6_size (rmL 7 1 6) (PcE D T dE mi A H [.ref b0, .int x]) (QI A (fun r H1 => H1 = H ∧ ∃ j, x = nI j ∧ j < rN R ∧ r = nI (rZ R j))) (XX A (XE H (fun E9 => E9 = "java/lang/IndexOutOfBoundsException" ∧ inB x (rN R) = false))) 1 6 A := by
  refine entry (cc := cX6_size) (maxL := 2) (ret := (some .int)) (by decide) rfl (Nat.le_of_ble_eq_true rfl) ?_
  intro p e s m args below meth c hx hb hrt9 hml hown hts hlk hnt hnm hev hS ls hl
  have hown : s.vm.findClass RX6 = some m.cls := hown
  have hK := hev.1
  have hl : lv_has ls 2 [(0, .ref b0), (1, .int x)] := hl
  refine lv_aload_n hx hb dX6_size_0 rfl (lv_at hl 0 rfl) ?_
  refine lv_iload_n hx hb dX6_size_1 rfl (lv_at hl 1 rfl) ?_
  refine k_qp (k_V (As := [.int x]) (rest := []) ⟨hx, hb, hml, hown, hts⟩ hev hS (c_X6_rowNumbered l hst hX hR x) (cwV 1 hts gX6_size_X6_rowNumbered rfl rfl rfl (by decide +kernel) ⟨Nat.le_of_ble_eq_true rfl, Nat.le_of_ble_eq_true rfl⟩) (x_recv hK hX.1 rfl) rfl hl.1 (Nat.le_of_ble_eq_true rfl) dX6_size_2 (Nat.le_of_ble_eq_true rfl) (Nat.le_of_ble_eq_true rfl)) hS hnt hlk (fun E9 H9 h9 z9 => h9) (Nat.le_of_ble_eq_true rfl) (Nat.le_of_ble_eq_true rfl) (fun rq1_ H1 locs1 hP hz1 hS => ?_)
  obtain ⟨eH, j1, hxj, hj1, er⟩ := hP
  have eH := eH.symm
  subst eH
  refine x_tov (y := .ref ((yW y j1))) (by rw [er]; rfl) ?_
  obtain ⟨hro, hrt, hrl⟩ := hR.2 j1 hj1
  refine x_getN (C := RX3) (TT := TX3) (N := 2) (ci := 6) (v := .ref ((yL y j1))) hx hb hts in_X6_size_RX3 hown hK (hro) rfl 1 (by decide) (hev.2.2.2.2.1.2 ("Archeloft", 54, "Archeloft$Row", "members", "Ljava/util/ArrayList;") (by decide +kernel)) (fun _ h9 => h9) rfl dX6_size_5 ?_
  refine k_ip (k_V (As := []) (rest := []) ⟨hx, hb, hml, hown, hts⟩ hev hS (c_Jx4a65c_size_8abf5 l hrl.1) (cwV 0 hts gX6_size_Jx4a65c_size_8abf5 rfl rfl rfl (by decide +kernel) ⟨Nat.le_of_ble_eq_true rfl, Nat.le_of_ble_eq_true rfl⟩) (x_recv hK ((hrl.1.rec).choose_spec) rfl) rfl hl.1 (Nat.le_of_ble_eq_true rfl) dX6_size_8 (Nat.le_of_ble_eq_true rfl) (Nat.le_of_ble_eq_true rfl)) hS hnt hlk (fun _ _ h _ => h.elim) (Nat.le_of_ble_eq_true rfl) (Nat.le_of_ble_eq_true rfl) (fun rq2_ H2 locs2 hP hz2 hS => ?_)
  refine W.widen (k := 0 + 1) (n := 0 + 6) (Nat.le_refl _) (Nat.le_refl _) ?_
  obtain ⟨eH, er⟩ := hP
  have eH := eH.symm
  subst eH
  refine x_top (y := (nI ((rZ R j1)))) (er) ?_
  exact r_i hx hb hrt9 hlk hS (Nat.le_of_ble_eq_true rfl) (Nat.le_of_ble_eq_true rfl) dX6_size_11 (⟨rfl, j1, hxj, hj1, rfl⟩)
set_option maxRecDepth 100000 in
theorem in_X6_entityAt_RX3 : ∀ w ∈ wsX30, w ∈ wsX6_entityAt := by decide +kernel
set_option maxHeartbeats 4000000 in
set_option maxRecDepth 100000 in
theorem c_X6_entityAt (l : Launch) {D : va_G} {T : Nat → ClassId} {dE mi : Nat} (hst : l.stackTraces = false) {A : Nat → Prop} {H : Heap} {b0 : Nat} {tg : Nat → Nat} {wo : Option Nat} {tk : Int32} (hX : PX D T b0 H wo tk) {R : mR} {y : mLy} (hR : RepR D T dE b0 tg H R y) {E : mE} (hE : PE D T b0 H E) (iE : InvE E) (iR : InvR E R) (x x2 : Int32) : vx_Met l yX6_entityAt wsX6_entityAt (rmL 7 2 12) (PcE D T dE mi A H [.ref b0, .int x, .int x2]) (QI A (fun r H1 => H1 = H ∧ ∃ j i, x = nI j ∧ j < rN R ∧ x2 = nI i ∧ i < rZ R j ∧ r = handle E (rM R j i))) (XX A (XE H (fun E9 => E9 = "java/lang/IndexOutOfBoundsException" ∧ (inB x (rN R) = false ∨ ∃ j, x = nI j ∧ j < rN R ∧ inB x2 (rZ R j) = false)))) 2 12 A := by
  refine entry (cc := cX6_entityAt) (maxL := 3) (ret := (some .int)) (by decide) rfl (Nat.le_of_ble_eq_true rfl) ?_
  intro p e s m args below meth c hx hb hrt9 hml hown hts hlk hnt hnm hev hS ls hl
  have hown : s.vm.findClass RX6 = some m.cls := hown
  have hK := hev.1
  have hl : lv_has ls 3 [(0, .ref b0), (1, .int x), (2, .int x2)] := hl
  refine lv_aload_n hx hb dX6_entityAt_0 rfl (lv_at hl 0 rfl) ?_
  refine lv_iload_n hx hb dX6_entityAt_1 rfl (lv_at hl 1 rfl) ?_
  refine k_qp (k_V (As := [.int x]) (rest := []) ⟨hx, hb, hml, hown, hts⟩ hev hS (c_X6_rowNumbered l hst hX hR x) (cwV 1 hts gX6_entityAt_X6_rowNumbered rfl rfl rfl (by decide +kernel) ⟨Nat.le_of_ble_eq_true rfl, Nat.le_of_ble_eq_true rfl⟩) (x_recv hK hX.1 rfl) rfl hl.1 (Nat.le_of_ble_eq_true rfl) dX6_entityAt_2 (Nat.le_of_ble_eq_true rfl) (Nat.le_of_ble_eq_true rfl)) hS hnt hlk (fun E9 H9 h9 z9 => ⟨⟨h9.1.1, Or.inl h9.1.2⟩, h9.2⟩) (Nat.le_of_ble_eq_true rfl) (Nat.le_of_ble_eq_true rfl) (fun rq1_ H1 locs1 hP hz1 hS => ?_)
  obtain ⟨eH, j1, hxj, hj1, er⟩ := hP
  have eH := eH.symm
  subst eH
  refine x_tov (y := .ref ((yW y j1))) (by rw [er]; rfl) ?_
  obtain ⟨hro, hrt, hrl⟩ := hR.2 j1 hj1
  have hc7 := hrl.2.1.lt
  have hc6 := hrl.1.2.1
  refine x_getN (C := RX3) (TT := TX3) (N := 2) (ci := 6) (v := .ref ((yL y j1))) hx hb hts in_X6_entityAt_RX3 hown hK (hro) rfl 1 (by decide) (hev.2.2.2.2.1.2 ("Archeloft", 54, "Archeloft$Row", "members", "Ljava/util/ArrayList;") (by decide +kernel)) (fun _ h9 => h9) rfl dX6_entityAt_5 ?_
  refine lv_iload_n hx hb dX6_entityAt_8 rfl (lv_at hl 2 rfl) ?_
  refine k_ip (k_S (As := [.ref ((yL y j1)), .int x2]) (rest := []) ⟨hx, hb, hml, hown, hts⟩ hev hS (c_X6_handleAt l hst hE hrl.1 (fun j9 hj9 => iE.2.1 _ (iR.2.2.1 j1 j9 hj1 hj9).1) (by omega) x2) (va_cwS 2 hts gX6_entityAt_X6_handleAt rfl rfl rfl (by decide +kernel) ⟨Nat.le_of_ble_eq_true rfl, Nat.le_of_ble_eq_true rfl⟩) rfl hl.1 (Nat.le_of_ble_eq_true rfl) dX6_entityAt_9 (Nat.le_of_ble_eq_true rfl) (Nat.le_of_ble_eq_true rfl)) hS hnt hlk (fun E9 H9 h9 z9 => ⟨⟨h9.1.1, Or.inr ⟨j1, hxj, hj1, h9.1.2⟩⟩, h9.2⟩) (Nat.le_of_ble_eq_true rfl) (Nat.le_of_ble_eq_true rfl) (fun rq2_ H2 locs2 hP hz2 hS => ?_)
  obtain ⟨eH, i1, hxi, hi1, er3⟩ := hP
  have eH := eH.symm
  subst eH
  refine x_top (y := ((handle E (rM R j1 i1)))) (er3) ?_
  exact r_i hx hb hrt9 hlk hS (Nat.le_of_ble_eq_true rfl) (Nat.le_of_ble_eq_true rfl) dX6_entityAt_12 (⟨rfl, j1, i1, hxj, hj1, hxi, hi1, rfl⟩)

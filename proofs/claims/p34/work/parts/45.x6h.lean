set_option maxRecDepth 100000 in
theorem in_X6_kinds_RX1 : ∀ w ∈ wsX10, w ∈ wsX6_kinds := by decide +kernel
set_option maxHeartbeats 4000000 in
set_option maxRecDepth 100000 in
theorem c_X6_kinds (l : Launch) {D : va_G} {T : Nat → ClassId} {dE mi : Nat} (hst : l.stackTraces = false) {A : Nat → Prop} {H : Heap} {b0 : Nat} {wo : Option Nat} {tk : Int32} (hX : PX D T b0 H wo tk) {E : mE} (hE : PE D T b0 H E) (x : Int32) : vx_Met l yX6_kinds wsX6_kinds (rmL 7 1 6) (PcE D T dE mi A H [.ref b0, .int x]) (QI A (fun r H1 => H1 = H ∧ ∃ sl, look E x = some sl ∧ r = nI (mKd E sl))) (XX A (XE H (fun E9 => E9 = "java/util/NoSuchElementException" ∧ look E x = none))) 1 6 A := by
  refine entry (cc := cX6_kinds) (maxL := 2) (ret := (some .int)) (by decide) rfl (Nat.le_of_ble_eq_true rfl) ?_
  intro p e s m args below meth c hx hb hrt9 hml hown hts hlk hnt hnm hev hS ls hl
  have hown : s.vm.findClass RX6 = some m.cls := hown
  have hK := hev.1
  have hl : lv_has ls 2 [(0, .ref b0), (1, .int x)] := hl
  refine lv_aload_n hx hb dX6_kinds_0 rfl (lv_at hl 0 rfl) ?_
  refine lv_iload_n hx hb dX6_kinds_1 rfl (lv_at hl 1 rfl) ?_
  refine k_qp (k_V (As := [.int x]) (rest := []) ⟨hx, hb, hml, hown, hts⟩ hev hS (c_X6_entityOf l hst hX hE x) (cwV 1 hts gX6_kinds_X6_entityOf rfl rfl rfl (by decide +kernel) ⟨Nat.le_of_ble_eq_true rfl, Nat.le_of_ble_eq_true rfl⟩) (x_recv hK hX.1 rfl) rfl hl.1 (Nat.le_of_ble_eq_true rfl) dX6_kinds_2 (Nat.le_of_ble_eq_true rfl) (Nat.le_of_ble_eq_true rfl)) hS hnt hlk (fun E9 H9 h9 z9 => ⟨⟨h9.1.1, h9.1.2⟩, h9.2⟩) (Nat.le_of_ble_eq_true rfl) (Nat.le_of_ble_eq_true rfl) (fun rq1_ H1 locs1 hP hz1 hS => ?_)
  obtain ⟨eH, sl, hlk9, er⟩ := hP
  have eH := eH.symm
  subst eH
  refine x_tov (y := .ref ((ea b0 sl))) (by rw [er]; rfl) ?_
  obtain ⟨hs32, hsal, -⟩ := look_some hlk9
  refine x_getN (C := RX1) (TT := TX1) (N := 6) (ci := 4) (v := .int (nI ((mKd E sl)))) hx hb hts in_X6_kinds_RX1 hown hK ((hE sl hs32).1) rfl 5 (by decide) (hev.2.2.2.2.1.2 ("Archeloft", 82, "Archeloft$Entity", "kindSet", "I") (by decide +kernel)) (fun _ h9 => h9) rfl dX6_kinds_5 ?_
  exact r_i hx hb hrt9 hlk hS (Nat.le_of_ble_eq_true rfl) (Nat.le_of_ble_eq_true rfl) dX6_kinds_8 (⟨rfl, sl, hlk9, rfl⟩)
set_option maxRecDepth 100000 in
theorem in_X6_value_RX1 : ∀ w ∈ wsX10, w ∈ wsX6_value := by decide +kernel
set_option maxHeartbeats 4000000 in
set_option maxRecDepth 100000 in
theorem c_X6_value (l : Launch) {D : va_G} {T : Nat → ClassId} {dE mi : Nat} (hst : l.stackTraces = false) {A : Nat → Prop} {H : Heap} {b0 : Nat} {wo : Option Nat} {tk : Int32} (hX : PX D T b0 H wo tk) {M : mSt} (hE : PE D T b0 H (sE M)) (iE : InvE (sE M)) (x kd : Int32) : vx_Met l yX6_value wsX6_value (rmL 8 3 18) (PcE D T dE mi A H [.ref b0, .int x, .int kd]) (QI A (fun r H1 => H1 = H ∧ ∃ sl i, ask M x kd = (0, sl, i) ∧ r = mVal (sE M) sl i)) (XX A (XA H (ask M x kd).1)) 3 18 A := by
  refine entry (cc := cX6_value) (maxL := 3) (ret := (some .int)) (by decide) rfl (Nat.le_of_ble_eq_true rfl) ?_
  intro p e s m args below meth c hx hb hrt9 hml hown hts hlk hnt hnm hev hS ls hl
  have hown : s.vm.findClass RX6 = some m.cls := hown
  have hK := hev.1
  have hl : lv_has ls 3 [(0, .ref b0), (1, .int x), (2, .int kd)] := hl
  refine lv_aload_n hx hb dX6_value_0 rfl (lv_at hl 0 rfl) ?_
  refine lv_iload_n hx hb dX6_value_1 rfl (lv_at hl 1 rfl) ?_
  refine lv_iload_n hx hb dX6_value_2 rfl (lv_at hl 2 rfl) ?_
  refine k_qp (k_V (As := [.int x, .int kd]) (rest := []) ⟨hx, hb, hml, hown, hts⟩ hev hS (c_X6_ownerOf l hst hX hE iE x kd) (cwV 2 hts gX6_value_X6_ownerOf rfl rfl rfl (by decide +kernel) ⟨Nat.le_of_ble_eq_true rfl, Nat.le_of_ble_eq_true rfl⟩) (x_recv hK hX.1 rfl) rfl hl.1 (Nat.le_of_ble_eq_true rfl) dX6_value_3 (Nat.le_of_ble_eq_true rfl) (Nat.le_of_ble_eq_true rfl)) hS hnt hlk (fun E9 H9 h9 z9 => h9) (Nat.le_of_ble_eq_true rfl) (Nat.le_of_ble_eq_true rfl) (fun rq1_ H1 locs1 hP hz1 hS => ?_)
  obtain ⟨eH, sl, i, hask, hlk9, hkd, hi6, hs32, hsal, er⟩ := hP
  have eH := eH.symm
  subst eH
  refine x_tov (y := .ref ((ea b0 sl))) (by rw [er]; rfl) ?_
  have hl : lv_has ls 3 [(0, .ref b0), (1, .int x), (2, .int (nI i))] := by
    have e9 : kd = (nI i) := hkd
    rw [← e9]; exact hl
  obtain ⟨he9, fv, fm, hfv, hfm, hfe⟩ := hE sl hs32
  refine x_getN (C := RX1) (TT := TX1) (N := 6) (ci := 4) (v := .ref ((ea b0 sl + 1))) hx hb hts in_X6_value_RX1 hown hK (he9) rfl 0 (by decide) (hev.2.2.2.2.1.2 ("Archeloft", 132, "Archeloft$Entity", "values", "[I") (by decide +kernel)) (fun _ h9 => h9) rfl dX6_value_6 ?_
  refine lv_iload_n hx hb dX6_value_9 rfl (lv_at hl 2 rfl) ?_
  refine x_iald (i := i) hx hb hK hfv (by omega) (by decide) dX6_value_10 ?_
  exact r_i hx hb hrt9 hlk hS (Nat.le_of_ble_eq_true rfl) (Nat.le_of_ble_eq_true rfl) dX6_value_11 (⟨rfl, sl, i, hask, (hfe i hi6).1⟩)
set_option maxRecDepth 100000 in
theorem in_X6_mark_RX1 : ∀ w ∈ wsX10, w ∈ wsX6_mark := by decide +kernel
set_option maxHeartbeats 4000000 in
set_option maxRecDepth 100000 in
theorem c_X6_mark (l : Launch) {D : va_G} {T : Nat → ClassId} {dE mi : Nat} (hst : l.stackTraces = false) {A : Nat → Prop} {H : Heap} {b0 : Nat} {wo : Option Nat} {tk : Int32} (hX : PX D T b0 H wo tk) {M : mSt} (hE : PE D T b0 H (sE M)) (iE : InvE (sE M)) (x kd : Int32) : vx_Met l yX6_mark wsX6_mark (rmL 8 3 18) (PcE D T dE mi A H [.ref b0, .int x, .int kd]) (QI A (fun r H1 => H1 = H ∧ ∃ sl i, ask M x kd = (0, sl, i) ∧ r = mMk (sE M) sl i)) (XX A (XA H (ask M x kd).1)) 3 18 A := by
  refine entry (cc := cX6_mark) (maxL := 3) (ret := (some .int)) (by decide) rfl (Nat.le_of_ble_eq_true rfl) ?_
  intro p e s m args below meth c hx hb hrt9 hml hown hts hlk hnt hnm hev hS ls hl
  have hown : s.vm.findClass RX6 = some m.cls := hown
  have hK := hev.1
  have hl : lv_has ls 3 [(0, .ref b0), (1, .int x), (2, .int kd)] := hl
  refine lv_aload_n hx hb dX6_mark_0 rfl (lv_at hl 0 rfl) ?_
  refine lv_iload_n hx hb dX6_mark_1 rfl (lv_at hl 1 rfl) ?_
  refine lv_iload_n hx hb dX6_mark_2 rfl (lv_at hl 2 rfl) ?_
  refine k_qp (k_V (As := [.int x, .int kd]) (rest := []) ⟨hx, hb, hml, hown, hts⟩ hev hS (c_X6_ownerOf l hst hX hE iE x kd) (cwV 2 hts gX6_mark_X6_ownerOf rfl rfl rfl (by decide +kernel) ⟨Nat.le_of_ble_eq_true rfl, Nat.le_of_ble_eq_true rfl⟩) (x_recv hK hX.1 rfl) rfl hl.1 (Nat.le_of_ble_eq_true rfl) dX6_mark_3 (Nat.le_of_ble_eq_true rfl) (Nat.le_of_ble_eq_true rfl)) hS hnt hlk (fun E9 H9 h9 z9 => h9) (Nat.le_of_ble_eq_true rfl) (Nat.le_of_ble_eq_true rfl) (fun rq1_ H1 locs1 hP hz1 hS => ?_)
  obtain ⟨eH, sl, i, hask, hlk9, hkd, hi6, hs32, hsal, er⟩ := hP
  have eH := eH.symm
  subst eH
  refine x_tov (y := .ref ((ea b0 sl))) (by rw [er]; rfl) ?_
  have hl : lv_has ls 3 [(0, .ref b0), (1, .int x), (2, .int (nI i))] := by
    have e9 : kd = (nI i) := hkd
    rw [← e9]; exact hl
  obtain ⟨he9, fv, fm, hfv, hfm, hfe⟩ := hE sl hs32
  refine x_getN (C := RX1) (TT := TX1) (N := 6) (ci := 4) (v := .ref ((ea b0 sl + 2))) hx hb hts in_X6_mark_RX1 hown hK (he9) rfl 1 (by decide) (hev.2.2.2.2.1.2 ("Archeloft", 136, "Archeloft$Entity", "marks", "[I") (by decide +kernel)) (fun _ h9 => h9) rfl dX6_mark_6 ?_
  refine lv_iload_n hx hb dX6_mark_9 rfl (lv_at hl 2 rfl) ?_
  refine x_iald (i := i) hx hb hK hfm (by omega) (by decide) dX6_mark_10 ?_
  exact r_i hx hb hrt9 hlk hS (Nat.le_of_ble_eq_true rfl) (Nat.le_of_ble_eq_true rfl) dX6_mark_11 (⟨rfl, sl, i, hask, (hfe i hi6).2⟩)

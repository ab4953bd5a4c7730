/-! the reference's constructor -/
def lenA (j : Nat) : Nat := [0, 32, 32, 32, 32, 192, 192, 64, 64, 64, 2048, 8, 8, 8, 32, 20, 20, 20, 20, 8, 8, 8, 32].getD j 0
def fI (g n : Nat) : List Value := [.int 0, .int 0, if 1 ≤ n then .ref (g + 1) else .null, if 2 ≤ n then .ref (g + 2) else .null, if 3 ≤ n then .ref (g + 3) else .null, if 4 ≤ n then .ref (g + 4) else .null, if 5 ≤ n then .ref (g + 5) else .null, if 6 ≤ n then .ref (g + 6) else .null, if 7 ≤ n then .ref (g + 7) else .null, if 8 ≤ n then .ref (g + 8) else .null, if 9 ≤ n then .ref (g + 9) else .null, if 10 ≤ n then .ref (g + 10) else .null, .int 0, if 11 ≤ n then .ref (g + 11) else .null, if 12 ≤ n then .ref (g + 12) else .null, if 13 ≤ n then .ref (g + 13) else .null, .int 0, .int 0, if 14 ≤ n then .ref (g + 14) else .null, .int 0, .int 0, if 15 ≤ n then .ref (g + 15) else .null, if 16 ≤ n then .ref (g + 16) else .null, if 17 ≤ n then .ref (g + 17) else .null, if 18 ≤ n then .ref (g + 18) else .null, .int 0, if 19 ≤ n then .ref (g + 19) else .null, if 20 ≤ n then .ref (g + 20) else .null, if 21 ≤ n then .ref (g + 21) else .null, .int 0, if 22 ≤ n then .ref (g + 22) else .null]
def RI (D : va_G) (T : Nat → ClassId) (g n : Nat) (H : Heap) : Prop := oc D H g 10 (fI g n) ∧ (∀ j, 1 ≤ j → j ≤ n → ic (T (if j = 1 then 1 else 0)) H (g + j) (lenA j) (fun _ => 0)) ∧ H.size = g + 1 + n
theorem RI.step {D : va_G} {T : Nat → ClassId} {g n : Nat} {H H1 H2 : Heap} (h : RI D T g n H) {tk ln : Nat} (hA : ic (T tk) H1 H.size ln (fun _ => 0)) (hz : H1.size = H.size + 1) (hq : ∀ q : Nat, q < H.size → H1[q]? = H[q]?) (ho : oc D H2 g 10 (fI g (n + 1))) (hz2 : H2.size = H1.size) (hq2 : ∀ q : Nat, q ≠ g → H2[q]? = H1[q]?) (htk : tk = if n + 1 = 1 then 1 else 0) (hln : ln = lenA (n + 1)) : RI D T g (n + 1) H2 := by
  obtain ⟨h1, h2, h3⟩ := h
  refine ⟨ho, fun j j1 j2 => ?_, by omega⟩
  by_cases cj : j = n + 1
  · subst cj; subst htk; subst hln
    rw [h3, show g + 1 + n = g + (n + 1) by omega] at hA
    exact hA.kept (hq2 _ (by omega))
  · exact (h2 j j1 (by omega)).kept ((hq2 _ (by omega)).trans (hq _ (by omega)))
theorem RI.rm {D : va_G} {T : Nat → ClassId} {g : Nat} {H : Heap} (h : RI D T g 22 H) : RM D T g (fun _ => 0) (fun _ _ => 0) H := ⟨h.1, h.2.1 1 (by decide) (by decide), h.2.1 2 (by decide) (by decide), h.2.1 3 (by decide) (by decide), h.2.1 4 (by decide) (by decide), h.2.1 5 (by decide) (by decide), h.2.1 6 (by decide) (by decide), h.2.1 7 (by decide) (by decide), h.2.1 8 (by decide) (by decide), h.2.1 9 (by decide) (by decide), h.2.1 10 (by decide) (by decide), h.2.1 11 (by decide) (by decide), h.2.1 12 (by decide) (by decide), h.2.1 13 (by decide) (by decide), h.2.1 14 (by decide) (by decide), h.2.1 15 (by decide) (by decide), h.2.1 16 (by decide) (by decide), h.2.1 17 (by decide) (by decide), h.2.1 18 (by decide) (by decide), h.2.1 19 (by decide) (by decide), h.2.1 20 (by decide) (by decide), h.2.1 21 (by decide) (by decide), h.2.1 22 (by decide) (by decide)⟩
def mE0 : mE := (fun _ => false, fun _ => 0, fun _ => 0, fun _ => none, fun _ _ => 0, fun _ _ => 0)
def mR0 : mR := (0, fun _ => 0, fun _ => 0, fun _ _ => 0)
def mQ0 : mQ := (0, fun _ => 0, fun _ => 0, fun _ => 0)
def mSt0 : mSt := (mE0, mR0, mQ0, (false, (0, fun _ => 0, 0), mC0), mQ0, 0)
theorem rel0 {F : Nat → Int32} (hF : ∀ x, x < 64 → F x = -1) : Rel (fun _ => 0) (up2 (fun _ _ => 0) 7 F) mSt0 := ⟨rfl, ⟨fun _ _ => rfl, fun _ _ => rfl, fun _ _ z => (nomatch z), fun _ _ z => (nomatch z), fun _ _ _ _ => rfl, fun _ _ _ _ => rfl⟩, ⟨rfl, fun d hd => (hF d hd).trans (if_neg (Nat.not_lt_zero _)).symm, fun r hr => absurd hr (Nat.not_lt_zero r), fun r _ => (if_neg (Nat.not_lt_zero r)).symm, fun r j hr => absurd hr (Nat.not_lt_zero r)⟩, ⟨rfl, fun i hi => absurd hi (Nat.not_lt_zero i)⟩, ⟨rfl, fun z => (nomatch z)⟩, ⟨rfl, fun i hi => absurd hi (Nat.not_lt_zero i)⟩⟩
set_option maxRecDepth 100000 in
theorem in_X7_init_RX7 : ∀ w ∈ wsX70, w ∈ wsX7_init := by decide +kernel
set_option maxHeartbeats 4000000 in
set_option maxRecDepth 100000 in
theorem c_X7_init (l : Launch) {D : va_G} {T : Nat → ClassId} {dE mi : Nat} {g : Nat} {H : Heap} (hI : RI D T g 0 H) : vx_Met l yX7_init wsX7_init (rmL 2 22 2944) (PcE D T dE mi (AM g) H [.ref g]) (QV (AM g) (fun H1 => ∃ S1 Y1, RM D T g S1 Y1 H1 ∧ Rel S1 Y1 mSt0 ∧ S1 0 = 0)) (XX (AM g) (XN)) 22 2944 (AM g) := by
  refine entry (cc := cX7_init) (maxL := 2) (ret := none) (by decide) rfl (Nat.le_of_ble_eq_true rfl) ?_
  intro p e s m args below meth c hx hb hrt9 hml hown hts hlk hnt hnm hev hS ls hl
  have hown : s.vm.findClass RX7 = some m.cls := hown
  have hK := hev.1
  have hl : lv_has ls 2 [(0, .ref g)] := hl
  refine lv_aload_n hx hb dX7_init_0 rfl (lv_at hl 0 rfl) ?_
  refine W.objInit hx hb hown (hts (.methodLink RX7 1 objectInit) (by decide +kernel)) (hts (.instanceMethod objectInit) (by decide +kernel)) (hts (.code objectInit ⟨#[0xb1]⟩ 1 none) (by decide +kernel)) rfl (by rw [hml]; exact hl.1) rfl dX7_init_1 (Nat.le_of_ble_eq_true rfl) (Nat.le_of_ble_eq_true rfl) ?_
  refine W.eq (g2 := F0 m 4 ls []) rfl ?_
  refine lv_aload_n hx hb dX7_init_4 rfl (lv_at hl 0 rfl) ?_
  refine lv_bipush (v := nI 32) hx hb dX7_init_5 (by decide) ?_
  refine x_newz hx hb (hts (.arrayClass .boolean) (by decide +kernel)) hK hS (n := 32) (by decide) (Nat.le_of_ble_eq_true rfl) (Nat.le_of_ble_eq_true rfl) dX7_init_7 (fun H1 hA1 hz1 hq1 hS => ?_)
  refine x_tov (y := .ref (g + 1)) (by rw [hI.2.2, show g + 1 + 0 = g + 1 by omega]) ?_
  refine x_putF (C := RX7) (TT := TX7) (N := 31) (ci := 10) (v := .ref (g + 1)) (ty := tyX7 2) hx hb hts in_X7_init_RX7 tyX7 tyX7_ok nmX7 hown hK hS (hI.1.kept (hq1 _ (by have h9 := hI.2.2; omega))) (show g ≤ g ∧ g < g + 23 by omega) rfl 2 (by decide) (hts (.fieldLink RX7 7 "ArcheloftModel" "isAlive" "[Z") (by decide +kernel)) (fun _ h9 => h9) rfl hnm rfl (tyX7_ok 2 (by decide)) rfl rfl (by show 2 < 31; decide) dX7_init_9 (fun G1 locs1 ho1 hy1 hp1 hS => ?_)
  have hI := hI.step hA1 hz1 hq1 ho1 hy1 hp1 rfl rfl
  refine lv_aload_n hx hb dX7_init_12 rfl (lv_at hl 0 rfl) ?_
  refine lv_bipush (v := nI 32) hx hb dX7_init_13 (by decide) ?_
  refine x_newi hx hb (hts (.arrayClass .int) (by decide +kernel)) hK hS (n := 32) (by decide) (Nat.le_of_ble_eq_true rfl) (Nat.le_of_ble_eq_true rfl) dX7_init_15 (fun H2 hA2 hz2 hq2 hS => ?_)
  refine x_tov (y := .ref (g + 2)) (by rw [hI.2.2, show g + 1 + 1 = g + 2 by omega]) ?_
  refine x_putF (C := RX7) (TT := TX7) (N := 31) (ci := 10) (v := .ref (g + 2)) (ty := tyX7 3) hx hb hts in_X7_init_RX7 tyX7 tyX7_ok nmX7 hown hK hS (hI.1.kept (hq2 _ (by have h9 := hI.2.2; omega))) (show g ≤ g ∧ g < g + 23 by omega) rfl 3 (by decide) (hts (.fieldLink RX7 13 "ArcheloftModel" "had" "[I") (by decide +kernel)) (fun _ h9 => h9) rfl hnm rfl (tyX7_ok 3 (by decide)) rfl rfl (by show 3 < 31; decide) dX7_init_17 (fun G2 locs2 ho2 hy2 hp2 hS => ?_)
  have hI := hI.step hA2 hz2 hq2 ho2 hy2 hp2 rfl rfl
  refine lv_aload_n hx hb dX7_init_20 rfl (lv_at hl 0 rfl) ?_
  refine lv_bipush (v := nI 32) hx hb dX7_init_21 (by decide) ?_
  refine x_newi hx hb (hts (.arrayClass .int) (by decide +kernel)) hK hS (n := 32) (by decide) (Nat.le_of_ble_eq_true rfl) (Nat.le_of_ble_eq_true rfl) dX7_init_23 (fun H3 hA3 hz3 hq3 hS => ?_)
  refine x_tov (y := .ref (g + 3)) (by rw [hI.2.2, show g + 1 + 2 = g + 3 by omega]) ?_
  refine x_putF (C := RX7) (TT := TX7) (N := 31) (ci := 10) (v := .ref (g + 3)) (ty := tyX7 4) hx hb hts in_X7_init_RX7 tyX7 tyX7_ok nmX7 hown hK hS (hI.1.kept (hq3 _ (by have h9 := hI.2.2; omega))) (show g ≤ g ∧ g < g + 23 by omega) rfl 4 (by decide) (hts (.fieldLink RX7 17 "ArcheloftModel" "kinds" "[I") (by decide +kernel)) (fun _ h9 => h9) rfl hnm rfl (tyX7_ok 4 (by decide)) rfl rfl (by show 4 < 31; decide) dX7_init_25 (fun G3 locs3 ho3 hy3 hp3 hS => ?_)
  have hI := hI.step hA3 hz3 hq3 ho3 hy3 hp3 rfl rfl
  refine lv_aload_n hx hb dX7_init_28 rfl (lv_at hl 0 rfl) ?_
  refine lv_bipush (v := nI 32) hx hb dX7_init_29 (by decide) ?_
  refine x_newi hx hb (hts (.arrayClass .int) (by decide +kernel)) hK hS (n := 32) (by decide) (Nat.le_of_ble_eq_true rfl) (Nat.le_of_ble_eq_true rfl) dX7_init_31 (fun H4 hA4 hz4 hq4 hS => ?_)
  refine x_tov (y := .ref (g + 4)) (by rw [hI.2.2, show g + 1 + 3 = g + 4 by omega]) ?_
  refine x_putF (C := RX7) (TT := TX7) (N := 31) (ci := 10) (v := .ref (g + 4)) (ty := tyX7 5) hx hb hts in_X7_init_RX7 tyX7 tyX7_ok nmX7 hown hK hS (hI.1.kept (hq4 _ (by have h9 := hI.2.2; omega))) (show g ≤ g ∧ g < g + 23 by omega) rfl 5 (by decide) (hts (.fieldLink RX7 20 "ArcheloftModel" "parent" "[I") (by decide +kernel)) (fun _ h9 => h9) rfl hnm rfl (tyX7_ok 5 (by decide)) rfl rfl (by show 5 < 31; decide) dX7_init_33 (fun G4 locs4 ho4 hy4 hp4 hS => ?_)
  have hI := hI.step hA4 hz4 hq4 ho4 hy4 hp4 rfl rfl
  refine lv_aload_n hx hb dX7_init_36 rfl (lv_at hl 0 rfl) ?_
  refine lv_sipush (v := nI 192) hx hb dX7_init_37 (by decide) ?_
  refine x_newi hx hb (hts (.arrayClass .int) (by decide +kernel)) hK hS (n := 192) (by decide) (Nat.le_of_ble_eq_true rfl) (Nat.le_of_ble_eq_true rfl) dX7_init_40 (fun H5 hA5 hz5 hq5 hS => ?_)
  refine x_tov (y := .ref (g + 5)) (by rw [hI.2.2, show g + 1 + 4 = g + 5 by omega]) ?_
  refine x_putF (C := RX7) (TT := TX7) (N := 31) (ci := 10) (v := .ref (g + 5)) (ty := tyX7 6) hx hb hts in_X7_init_RX7 tyX7 tyX7_ok nmX7 hown hK hS (hI.1.kept (hq5 _ (by have h9 := hI.2.2; omega))) (show g ≤ g ∧ g < g + 23 by omega) rfl 6 (by decide) (hts (.fieldLink RX7 23 "ArcheloftModel" "values" "[I") (by decide +kernel)) (fun _ h9 => h9) rfl hnm rfl (tyX7_ok 6 (by decide)) rfl rfl (by show 6 < 31; decide) dX7_init_42 (fun G5 locs5 ho5 hy5 hp5 hS => ?_)
  have hI := hI.step hA5 hz5 hq5 ho5 hy5 hp5 rfl rfl
  refine lv_aload_n hx hb dX7_init_45 rfl (lv_at hl 0 rfl) ?_
  refine lv_sipush (v := nI 192) hx hb dX7_init_46 (by decide) ?_
  refine x_newi hx hb (hts (.arrayClass .int) (by decide +kernel)) hK hS (n := 192) (by decide) (Nat.le_of_ble_eq_true rfl) (Nat.le_of_ble_eq_true rfl) dX7_init_49 (fun H6 hA6 hz6 hq6 hS => ?_)
  refine x_tov (y := .ref (g + 6)) (by rw [hI.2.2, show g + 1 + 5 = g + 6 by omega]) ?_
  refine x_putF (C := RX7) (TT := TX7) (N := 31) (ci := 10) (v := .ref (g + 6)) (ty := tyX7 7) hx hb hts in_X7_init_RX7 tyX7 tyX7_ok nmX7 hown hK hS (hI.1.kept (hq6 _ (by have h9 := hI.2.2; omega))) (show g ≤ g ∧ g < g + 23 by omega) rfl 7 (by decide) (hts (.fieldLink RX7 26 "ArcheloftModel" "marks" "[I") (by decide +kernel)) (fun _ h9 => h9) rfl hnm rfl (tyX7_ok 7 (by decide)) rfl rfl (by show 7 < 31; decide) dX7_init_51 (fun G6 locs6 ho6 hy6 hp6 hS => ?_)
  have hI := hI.step hA6 hz6 hq6 ho6 hy6 hp6 rfl rfl
  refine lv_aload_n hx hb dX7_init_54 rfl (lv_at hl 0 rfl) ?_
  refine lv_bipush (v := nI 64) hx hb dX7_init_55 (by decide) ?_
  refine x_newi hx hb (hts (.arrayClass .int) (by decide +kernel)) hK hS (n := 64) (by decide) (Nat.le_of_ble_eq_true rfl) (Nat.le_of_ble_eq_true rfl) dX7_init_57 (fun H7 hA7 hz7 hq7 hS => ?_)
  refine x_tov (y := .ref (g + 7)) (by rw [hI.2.2, show g + 1 + 6 = g + 7 by omega]) ?_
  refine x_putF (C := RX7) (TT := TX7) (N := 31) (ci := 10) (v := .ref (g + 7)) (ty := tyX7 8) hx hb hts in_X7_init_RX7 tyX7 tyX7_ok nmX7 hown hK hS (hI.1.kept (hq7 _ (by have h9 := hI.2.2; omega))) (show g ≤ g ∧ g < g + 23 by omega) rfl 8 (by decide) (hts (.fieldLink RX7 29 "ArcheloftModel" "rowOf" "[I") (by decide +kernel)) (fun _ h9 => h9) rfl hnm rfl (tyX7_ok 8 (by decide)) rfl rfl (by show 8 < 31; decide) dX7_init_59 (fun G7 locs7 ho7 hy7 hp7 hS => ?_)
  have hI := hI.step hA7 hz7 hq7 ho7 hy7 hp7 rfl rfl
  refine lv_aload_n hx hb dX7_init_62 rfl (lv_at hl 0 rfl) ?_
  refine lv_bipush (v := nI 64) hx hb dX7_init_63 (by decide) ?_
  refine x_newi hx hb (hts (.arrayClass .int) (by decide +kernel)) hK hS (n := 64) (by decide) (Nat.le_of_ble_eq_true rfl) (Nat.le_of_ble_eq_true rfl) dX7_init_65 (fun H8 hA8 hz8 hq8 hS => ?_)
  refine x_tov (y := .ref (g + 8)) (by rw [hI.2.2, show g + 1 + 7 = g + 8 by omega]) ?_
  refine x_putF (C := RX7) (TT := TX7) (N := 31) (ci := 10) (v := .ref (g + 8)) (ty := tyX7 9) hx hb hts in_X7_init_RX7 tyX7 tyX7_ok nmX7 hown hK hS (hI.1.kept (hq8 _ (by have h9 := hI.2.2; omega))) (show g ≤ g ∧ g < g + 23 by omega) rfl 9 (by decide) (hts (.fieldLink RX7 32 "ArcheloftModel" "setOf" "[I") (by decide +kernel)) (fun _ h9 => h9) rfl hnm rfl (tyX7_ok 9 (by decide)) rfl rfl (by show 9 < 31; decide) dX7_init_67 (fun G8 locs8 ho8 hy8 hp8 hS => ?_)
  have hI := hI.step hA8 hz8 hq8 ho8 hy8 hp8 rfl rfl
  refine lv_aload_n hx hb dX7_init_70 rfl (lv_at hl 0 rfl) ?_
  refine lv_bipush (v := nI 64) hx hb dX7_init_71 (by decide) ?_
  refine x_newi hx hb (hts (.arrayClass .int) (by decide +kernel)) hK hS (n := 64) (by decide) (Nat.le_of_ble_eq_true rfl) (Nat.le_of_ble_eq_true rfl) dX7_init_73 (fun H9 hA9 hz9 hq9 hS => ?_)
  refine x_tov (y := .ref (g + 9)) (by rw [hI.2.2, show g + 1 + 8 = g + 9 by omega]) ?_
  refine x_putF (C := RX7) (TT := TX7) (N := 31) (ci := 10) (v := .ref (g + 9)) (ty := tyX7 10) hx hb hts in_X7_init_RX7 tyX7 tyX7_ok nmX7 hown hK hS (hI.1.kept (hq9 _ (by have h9 := hI.2.2; omega))) (show g ≤ g ∧ g < g + 23 by omega) rfl 10 (by decide) (hts (.fieldLink RX7 35 "ArcheloftModel" "size" "[I") (by decide +kernel)) (fun _ h9 => h9) rfl hnm rfl (tyX7_ok 10 (by decide)) rfl rfl (by show 10 < 31; decide) dX7_init_75 (fun G9 locs9 ho9 hy9 hp9 hS => ?_)
  have hI := hI.step hA9 hz9 hq9 ho9 hy9 hp9 rfl rfl
  refine lv_aload_n hx hb dX7_init_78 rfl (lv_at hl 0 rfl) ?_
  refine lv_sipush (v := nI 2048) hx hb dX7_init_79 (by decide) ?_
  refine x_newi hx hb (hts (.arrayClass .int) (by decide +kernel)) hK hS (n := 2048) (by decide) (Nat.le_of_ble_eq_true rfl) (Nat.le_of_ble_eq_true rfl) dX7_init_82 (fun H10 hA10 hz10 hq10 hS => ?_)
  refine x_tov (y := .ref (g + 10)) (by rw [hI.2.2, show g + 1 + 9 = g + 10 by omega]) ?_
  refine x_putF (C := RX7) (TT := TX7) (N := 31) (ci := 10) (v := .ref (g + 10)) (ty := tyX7 11) hx hb hts in_X7_init_RX7 tyX7 tyX7_ok nmX7 hown hK hS (hI.1.kept (hq10 _ (by have h9 := hI.2.2; omega))) (show g ≤ g ∧ g < g + 23 by omega) rfl 11 (by decide) (hts (.fieldLink RX7 38 "ArcheloftModel" "places" "[I") (by decide +kernel)) (fun _ h9 => h9) rfl hnm rfl (tyX7_ok 11 (by decide)) rfl rfl (by show 11 < 31; decide) dX7_init_84 (fun G10 locs10 ho10 hy10 hp10 hS => ?_)
  have hI := hI.step hA10 hz10 hq10 ho10 hy10 hp10 rfl rfl
  refine lv_aload_n hx hb dX7_init_87 rfl (lv_at hl 0 rfl) ?_
  refine lv_bipush (v := nI 8) hx hb dX7_init_88 (by decide) ?_
  refine x_newi hx hb (hts (.arrayClass .int) (by decide +kernel)) hK hS (n := 8) (by decide) (Nat.le_of_ble_eq_true rfl) (Nat.le_of_ble_eq_true rfl) dX7_init_90 (fun H11 hA11 hz11 hq11 hS => ?_)
  refine x_tov (y := .ref (g + 11)) (by rw [hI.2.2, show g + 1 + 10 = g + 11 by omega]) ?_
  refine x_putF (C := RX7) (TT := TX7) (N := 31) (ci := 10) (v := .ref (g + 11)) (ty := tyX7 13) hx hb hts in_X7_init_RX7 tyX7 tyX7_ok nmX7 hown hK hS (hI.1.kept (hq11 _ (by have h9 := hI.2.2; omega))) (show g ≤ g ∧ g < g + 23 by omega) rfl 13 (by decide) (hts (.fieldLink RX7 41 "ArcheloftModel" "all" "[I") (by decide +kernel)) (fun _ h9 => h9) rfl hnm rfl (tyX7_ok 13 (by decide)) rfl rfl (by show 13 < 31; decide) dX7_init_92 (fun G11 locs11 ho11 hy11 hp11 hS => ?_)
  have hI := hI.step hA11 hz11 hq11 ho11 hy11 hp11 rfl rfl
  refine lv_aload_n hx hb dX7_init_95 rfl (lv_at hl 0 rfl) ?_
  refine lv_bipush (v := nI 8) hx hb dX7_init_96 (by decide) ?_
  refine x_newi hx hb (hts (.arrayClass .int) (by decide +kernel)) hK hS (n := 8) (by decide) (Nat.le_of_ble_eq_true rfl) (Nat.le_of_ble_eq_true rfl) dX7_init_98 (fun H12 hA12 hz12 hq12 hS => ?_)
  refine x_tov (y := .ref (g + 12)) (by rw [hI.2.2, show g + 1 + 11 = g + 12 by omega]) ?_
  refine x_putF (C := RX7) (TT := TX7) (N := 31) (ci := 10) (v := .ref (g + 12)) (ty := tyX7 14) hx hb hts in_X7_init_RX7 tyX7 tyX7_ok nmX7 hown hK hS (hI.1.kept (hq12 _ (by have h9 := hI.2.2; omega))) (show g ≤ g ∧ g < g + 23 by omega) rfl 14 (by decide) (hts (.fieldLink RX7 44 "ArcheloftModel" "none" "[I") (by decide +kernel)) (fun _ h9 => h9) rfl hnm rfl (tyX7_ok 14 (by decide)) rfl rfl (by show 14 < 31; decide) dX7_init_100 (fun G12 locs12 ho12 hy12 hp12 hS => ?_)
  have hI := hI.step hA12 hz12 hq12 ho12 hy12 hp12 rfl rfl
  refine lv_aload_n hx hb dX7_init_103 rfl (lv_at hl 0 rfl) ?_
  refine lv_bipush (v := nI 8) hx hb dX7_init_104 (by decide) ?_
  refine x_newi hx hb (hts (.arrayClass .int) (by decide +kernel)) hK hS (n := 8) (by decide) (Nat.le_of_ble_eq_true rfl) (Nat.le_of_ble_eq_true rfl) dX7_init_106 (fun H13 hA13 hz13 hq13 hS => ?_)
  refine x_tov (y := .ref (g + 13)) (by rw [hI.2.2, show g + 1 + 12 = g + 13 by omega]) ?_
  refine x_putF (C := RX7) (TT := TX7) (N := 31) (ci := 10) (v := .ref (g + 13)) (ty := tyX7 15) hx hb hts in_X7_init_RX7 tyX7 tyX7_ok nmX7 hown hK hS (hI.1.kept (hq13 _ (by have h9 := hI.2.2; omega))) (show g ≤ g ∧ g < g + 23 by omega) rfl 15 (by decide) (hts (.fieldLink RX7 47 "ArcheloftModel" "any" "[I") (by decide +kernel)) (fun _ h9 => h9) rfl hnm rfl (tyX7_ok 15 (by decide)) rfl rfl (by show 15 < 31; decide) dX7_init_108 (fun G13 locs13 ho13 hy13 hp13 hS => ?_)
  have hI := hI.step hA13 hz13 hq13 ho13 hy13 hp13 rfl rfl
  refine lv_aload_n hx hb dX7_init_111 rfl (lv_at hl 0 rfl) ?_
  refine lv_bipush (v := nI 32) hx hb dX7_init_112 (by decide) ?_
  refine x_newi hx hb (hts (.arrayClass .int) (by decide +kernel)) hK hS (n := 32) (by decide) (Nat.le_of_ble_eq_true rfl) (Nat.le_of_ble_eq_true rfl) dX7_init_114 (fun H14 hA14 hz14 hq14 hS => ?_)
  refine x_tov (y := .ref (g + 14)) (by rw [hI.2.2, show g + 1 + 13 = g + 14 by omega]) ?_
  refine x_putF (C := RX7) (TT := TX7) (N := 31) (ci := 10) (v := .ref (g + 14)) (ty := tyX7 18) hx hb hts in_X7_init_RX7 tyX7 tyX7_ok nmX7 hown hK hS (hI.1.kept (hq14 _ (by have h9 := hI.2.2; omega))) (show g ≤ g ∧ g < g + 23 by omega) rfl 18 (by decide) (hts (.fieldLink RX7 50 "ArcheloftModel" "walked" "[I") (by decide +kernel)) (fun _ h9 => h9) rfl hnm rfl (tyX7_ok 18 (by decide)) rfl rfl (by show 18 < 31; decide) dX7_init_116 (fun G14 locs14 ho14 hy14 hp14 hS => ?_)
  have hI := hI.step hA14 hz14 hq14 ho14 hy14 hp14 rfl rfl
  refine lv_aload_n hx hb dX7_init_119 rfl (lv_at hl 0 rfl) ?_
  refine lv_bipush (v := nI 20) hx hb dX7_init_120 (by decide) ?_
  refine x_newi hx hb (hts (.arrayClass .int) (by decide +kernel)) hK hS (n := 20) (by decide) (Nat.le_of_ble_eq_true rfl) (Nat.le_of_ble_eq_true rfl) dX7_init_122 (fun H15 hA15 hz15 hq15 hS => ?_)
  refine x_tov (y := .ref (g + 15)) (by rw [hI.2.2, show g + 1 + 14 = g + 15 by omega]) ?_
  refine x_putF (C := RX7) (TT := TX7) (N := 31) (ci := 10) (v := .ref (g + 15)) (ty := tyX7 21) hx hb hts in_X7_init_RX7 tyX7 tyX7_ok nmX7 hown hK hS (hI.1.kept (hq15 _ (by have h9 := hI.2.2; omega))) (show g ≤ g ∧ g < g + 23 by omega) rfl 21 (by decide) (hts (.fieldLink RX7 53 "ArcheloftModel" "command" "[I") (by decide +kernel)) (fun _ h9 => h9) rfl hnm rfl (tyX7_ok 21 (by decide)) rfl rfl (by show 21 < 31; decide) dX7_init_124 (fun G15 locs15 ho15 hy15 hp15 hS => ?_)
  have hI := hI.step hA15 hz15 hq15 ho15 hy15 hp15 rfl rfl
  refine lv_aload_n hx hb dX7_init_127 rfl (lv_at hl 0 rfl) ?_
  refine lv_bipush (v := nI 20) hx hb dX7_init_128 (by decide) ?_
  refine x_newi hx hb (hts (.arrayClass .int) (by decide +kernel)) hK hS (n := 20) (by decide) (Nat.le_of_ble_eq_true rfl) (Nat.le_of_ble_eq_true rfl) dX7_init_130 (fun H16 hA16 hz16 hq16 hS => ?_)
  refine x_tov (y := .ref (g + 16)) (by rw [hI.2.2, show g + 1 + 15 = g + 16 by omega]) ?_
  refine x_putF (C := RX7) (TT := TX7) (N := 31) (ci := 10) (v := .ref (g + 16)) (ty := tyX7 22) hx hb hts in_X7_init_RX7 tyX7 tyX7_ok nmX7 hown hK hS (hI.1.kept (hq16 _ (by have h9 := hI.2.2; omega))) (show g ≤ g ∧ g < g + 23 by omega) rfl 22 (by decide) (hts (.fieldLink RX7 56 "ArcheloftModel" "toHandle" "[I") (by decide +kernel)) (fun _ h9 => h9) rfl hnm rfl (tyX7_ok 22 (by decide)) rfl rfl (by show 22 < 31; decide) dX7_init_132 (fun G16 locs16 ho16 hy16 hp16 hS => ?_)
  have hI := hI.step hA16 hz16 hq16 ho16 hy16 hp16 rfl rfl
  refine lv_aload_n hx hb dX7_init_135 rfl (lv_at hl 0 rfl) ?_
  refine lv_bipush (v := nI 20) hx hb dX7_init_136 (by decide) ?_
  refine x_newi hx hb (hts (.arrayClass .int) (by decide +kernel)) hK hS (n := 20) (by decide) (Nat.le_of_ble_eq_true rfl) (Nat.le_of_ble_eq_true rfl) dX7_init_138 (fun H17 hA17 hz17 hq17 hS => ?_)
  refine x_tov (y := .ref (g + 17)) (by rw [hI.2.2, show g + 1 + 16 = g + 17 by omega]) ?_
  refine x_putF (C := RX7) (TT := TX7) (N := 31) (ci := 10) (v := .ref (g + 17)) (ty := tyX7 23) hx hb hts in_X7_init_RX7 tyX7 tyX7_ok nmX7 hown hK hS (hI.1.kept (hq17 _ (by have h9 := hI.2.2; omega))) (show g ≤ g ∧ g < g + 23 by omega) rfl 23 (by decide) (hts (.fieldLink RX7 59 "ArcheloftModel" "toKind" "[I") (by decide +kernel)) (fun _ h9 => h9) rfl hnm rfl (tyX7_ok 23 (by decide)) rfl rfl (by show 23 < 31; decide) dX7_init_140 (fun G17 locs17 ho17 hy17 hp17 hS => ?_)
  have hI := hI.step hA17 hz17 hq17 ho17 hy17 hp17 rfl rfl
  refine lv_aload_n hx hb dX7_init_143 rfl (lv_at hl 0 rfl) ?_
  refine lv_bipush (v := nI 20) hx hb dX7_init_144 (by decide) ?_
  refine x_newi hx hb (hts (.arrayClass .int) (by decide +kernel)) hK hS (n := 20) (by decide) (Nat.le_of_ble_eq_true rfl) (Nat.le_of_ble_eq_true rfl) dX7_init_146 (fun H18 hA18 hz18 hq18 hS => ?_)
  refine x_tov (y := .ref (g + 18)) (by rw [hI.2.2, show g + 1 + 17 = g + 18 by omega]) ?_
  refine x_putF (C := RX7) (TT := TX7) (N := 31) (ci := 10) (v := .ref (g + 18)) (ty := tyX7 24) hx hb hts in_X7_init_RX7 tyX7 tyX7_ok nmX7 hown hK hS (hI.1.kept (hq18 _ (by have h9 := hI.2.2; omega))) (show g ≤ g ∧ g < g + 23 by omega) rfl 24 (by decide) (hts (.fieldLink RX7 62 "ArcheloftModel" "toValue" "[I") (by decide +kernel)) (fun _ h9 => h9) rfl hnm rfl (tyX7_ok 24 (by decide)) rfl rfl (by show 24 < 31; decide) dX7_init_148 (fun G18 locs18 ho18 hy18 hp18 hS => ?_)
  have hI := hI.step hA18 hz18 hq18 ho18 hy18 hp18 rfl rfl
  refine lv_aload_n hx hb dX7_init_151 rfl (lv_at hl 0 rfl) ?_
  refine lv_bipush (v := nI 8) hx hb dX7_init_152 (by decide) ?_
  refine x_newi hx hb (hts (.arrayClass .int) (by decide +kernel)) hK hS (n := 8) (by decide) (Nat.le_of_ble_eq_true rfl) (Nat.le_of_ble_eq_true rfl) dX7_init_154 (fun H19 hA19 hz19 hq19 hS => ?_)
  refine x_tov (y := .ref (g + 19)) (by rw [hI.2.2, show g + 1 + 18 = g + 19 by omega]) ?_
  refine x_putF (C := RX7) (TT := TX7) (N := 31) (ci := 10) (v := .ref (g + 19)) (ty := tyX7 26) hx hb hts in_X7_init_RX7 tyX7 tyX7_ok nmX7 hown hK hS (hI.1.kept (hq19 _ (by have h9 := hI.2.2; omega))) (show g ≤ g ∧ g < g + 23 by omega) rfl 26 (by decide) (hts (.fieldLink RX7 65 "ArcheloftModel" "reads" "[I") (by decide +kernel)) (fun _ h9 => h9) rfl hnm rfl (tyX7_ok 26 (by decide)) rfl rfl (by show 26 < 31; decide) dX7_init_156 (fun G19 locs19 ho19 hy19 hp19 hS => ?_)
  have hI := hI.step hA19 hz19 hq19 ho19 hy19 hp19 rfl rfl
  refine lv_aload_n hx hb dX7_init_159 rfl (lv_at hl 0 rfl) ?_
  refine lv_bipush (v := nI 8) hx hb dX7_init_160 (by decide) ?_
  refine x_newi hx hb (hts (.arrayClass .int) (by decide +kernel)) hK hS (n := 8) (by decide) (Nat.le_of_ble_eq_true rfl) (Nat.le_of_ble_eq_true rfl) dX7_init_162 (fun H20 hA20 hz20 hq20 hS => ?_)
  refine x_tov (y := .ref (g + 20)) (by rw [hI.2.2, show g + 1 + 19 = g + 20 by omega]) ?_
  refine x_putF (C := RX7) (TT := TX7) (N := 31) (ci := 10) (v := .ref (g + 20)) (ty := tyX7 27) hx hb hts in_X7_init_RX7 tyX7 tyX7_ok nmX7 hown hK hS (hI.1.kept (hq20 _ (by have h9 := hI.2.2; omega))) (show g ≤ g ∧ g < g + 23 by omega) rfl 27 (by decide) (hts (.fieldLink RX7 68 "ArcheloftModel" "writes" "[I") (by decide +kernel)) (fun _ h9 => h9) rfl hnm rfl (tyX7_ok 27 (by decide)) rfl rfl (by show 27 < 31; decide) dX7_init_164 (fun G20 locs20 ho20 hy20 hp20 hS => ?_)
  have hI := hI.step hA20 hz20 hq20 ho20 hy20 hp20 rfl rfl
  refine lv_aload_n hx hb dX7_init_167 rfl (lv_at hl 0 rfl) ?_
  refine lv_bipush (v := nI 8) hx hb dX7_init_168 (by decide) ?_
  refine x_newi hx hb (hts (.arrayClass .int) (by decide +kernel)) hK hS (n := 8) (by decide) (Nat.le_of_ble_eq_true rfl) (Nat.le_of_ble_eq_true rfl) dX7_init_170 (fun H21 hA21 hz21 hq21 hS => ?_)
  refine x_tov (y := .ref (g + 21)) (by rw [hI.2.2, show g + 1 + 20 = g + 21 by omega]) ?_
  refine x_putF (C := RX7) (TT := TX7) (N := 31) (ci := 10) (v := .ref (g + 21)) (ty := tyX7 28) hx hb hts in_X7_init_RX7 tyX7 tyX7_ok nmX7 hown hK hS (hI.1.kept (hq21 _ (by have h9 := hI.2.2; omega))) (show g ≤ g ∧ g < g + 23 by omega) rfl 28 (by decide) (hts (.fieldLink RX7 71 "ArcheloftModel" "stage" "[I") (by decide +kernel)) (fun _ h9 => h9) rfl hnm rfl (tyX7_ok 28 (by decide)) rfl rfl (by show 28 < 31; decide) dX7_init_172 (fun G21 locs21 ho21 hy21 hp21 hS => ?_)
  have hI := hI.step hA21 hz21 hq21 ho21 hy21 hp21 rfl rfl
  refine lv_aload_n hx hb dX7_init_175 rfl (lv_at hl 0 rfl) ?_
  refine lv_bipush (v := nI 32) hx hb dX7_init_176 (by decide) ?_
  refine x_newi hx hb (hts (.arrayClass .int) (by decide +kernel)) hK hS (n := 32) (by decide) (Nat.le_of_ble_eq_true rfl) (Nat.le_of_ble_eq_true rfl) dX7_init_178 (fun H22 hA22 hz22 hq22 hS => ?_)
  refine x_tov (y := .ref (g + 22)) (by rw [hI.2.2, show g + 1 + 21 = g + 22 by omega]) ?_
  refine x_putF (C := RX7) (TT := TX7) (N := 31) (ci := 10) (v := .ref (g + 22)) (ty := tyX7 30) hx hb hts in_X7_init_RX7 tyX7 tyX7_ok nmX7 hown hK hS (hI.1.kept (hq22 _ (by have h9 := hI.2.2; omega))) (show g ≤ g ∧ g < g + 23 by omega) rfl 30 (by decide) (hts (.fieldLink RX7 74 "ArcheloftModel" "ending" "[I") (by decide +kernel)) (fun _ h9 => h9) rfl hnm rfl (tyX7_ok 30 (by decide)) rfl rfl (by show 30 < 31; decide) dX7_init_180 (fun G22 locs22 ho22 hy22 hp22 hS => ?_)
  have hI := hI.step hA22 hz22 hq22 ho22 hy22 hp22 rfl rfl
  have hR := hI.rm
  refine lv_iconst (v := nI 0) hx hb dX7_init_183 (by decide) ?_
  refine lv_istore_n (lv' := [(1, .int (nI 0)), (0, .ref g)]) hx hb dX7_init_184 rfl hl (by decide) rfl (fun ls hl => ?_)
  have loop185 : ∀ (n : Nat) (i : Nat) (F : Nat → Int32) (H9 : Heap) (locs9 : List Loc), 64 - i < n → (i ≤ 64) → (∀ x, x < i → F x = -1) → (RM D T g (fun _ => 0) (up2 (fun _ _ => 0) 7 F) H9) → (va_S (AM g) s.heap H9 locs9) → ∀ (ls : Array Slot), lv_has ls 2 [(1, .int (nI i)), (0, .ref g)] → W p l e (rmL 2 22 2944) s m args below meth c H9 locs9 (0 + 1 + 1 + 1 + 1 + 1 + 1 + 1 + 1 + 1 + 1 + 1 + 1 + 1 + 1 + 1 + 1 + 1 + 1 + 1 + 1 + 1 + 1) (0 + 32 + 32 + 32 + 32 + 192 + 192 + 64 + 64 + 64 + 2048 + 8 + 8 + 8 + 32 + 20 + 20 + 20 + 20 + 8 + 8 + 8 + 32) (vx_MQ below (QV (AM g) (fun H1 => ∃ S1 Y1, RM D T g S1 Y1 H1 ∧ Rel S1 Y1 mSt0 ∧ S1 0 = 0)) (XX (AM g) (XN)) args s 22 2944 (AM g)) (F0 m 185 ls []) := by
    intro n
    induction n with
    | zero => intro i F H9 locs9 hfuel; exact absurd hfuel (Nat.not_lt_zero _)
    | succ n ih185 =>
      intro i F H9 locs9 hfuel hi hF hR hS ls hl
      refine lv_iload_n hx hb dX7_init_185 rfl (lv_at hl 0 rfl) ?_
      refine lv_bipush (v := nI 64) hx hb dX7_init_186 (by decide) ?_
      refine y_icmp_ge hx hb (by omega) (Nat.le_of_ble_eq_true rfl) (tgt := 204) dX7_init_188 (by decide) (fun c188 => ?_) (fun c188 => ?_)
      · exact r_v hx hb hrt9 hlk hS (Nat.le_of_ble_eq_true rfl) (Nat.le_of_ble_eq_true rfl) dX7_init_204 (⟨_, _, hR, rel0 (fun x hx => hF x (by omega)), rfl⟩)
      · refine lv_aload_n hx hb dX7_init_191 rfl (lv_at hl 1 rfl) ?_
        refine m_get hx hb hts in_X7_init_RX7 hown hK hR 8 (by decide) (hts (.fieldLink RX7 29 "ArcheloftModel" "rowOf" "[I") (by decide +kernel)) rfl (v := .ref (g + 7)) rfl dX7_init_192 ?_
        refine lv_iload_n hx hb dX7_init_195 rfl (lv_at hl 0 rfl) ?_
        refine lv_iconst (v := -1) hx hb dX7_init_196 (by decide) ?_
        refine m_st7 (i := i) (v := ((-1))) hx hb hK hS hR (by omega) dX7_init_197 (fun H1 locs1 hR hS => ?_)
        refine lv_iinc (v := (nI (i + 1))) (lv' := [(1, .int (nI (i + 1))), (0, .ref g)]) hx hb dX7_init_198 hl (k := 0) rfl (nI_inc _) (by decide) rfl (fun ls hl => ?_)
        refine lv_goto (tgt := 185) hx hb dX7_init_201 (by decide) ?_
        exact ih185 (i + 1) (upd F i (-1)) H1 locs1 (by omega) (by omega) (fun x hx => by show (if x = i then (-1 : Int32) else F x) = -1; by_cases cx : x = i; rw [if_pos cx]; rw [if_neg cx]; exact hF x (by omega)) hR hS ls (lv_sub hl [0, 1] rfl)
  exact loop185 (64 + 1) 0 (fun _ => 0) G22 locs22 (Nat.lt_succ_self _) (Nat.zero_le _) (fun x hx => absurd hx (Nat.not_lt_zero x)) hR hS ls (lv_sub hl [0, 1] rfl)

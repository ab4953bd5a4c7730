/-! the class itself: what is thrown leaves the cells that were there -/
def KP (H H1 : Heap) : Prop := H.size ≤ H1.size ∧ ∀ q : Nat, q < H.size → H1[q]? = H[q]?
def XE (H : Heap) (P : String → Prop) : String → Heap → Prop := fun E H1 => P E ∧ KP H H1
theorem KP.rf (H : Heap) : KP H H := ⟨Nat.le_refl _, fun _ _ => rfl⟩
theorem KP.tr {H H1 H2 : Heap} (h : KP H H1) (h2 : KP H1 H2) : KP H H2 := ⟨Nat.le_trans h.1 h2.1, fun q hq => (h2.2 q (Nat.lt_of_lt_of_le hq h.1)).trans (h.2 q hq)⟩
set_option maxRecDepth 100000 in
theorem ta_X6_refuseNoKind_189 : ∀ w ∈ (vx_atS RX6 189 "java/lang/IllegalArgumentException" ["java/lang/RuntimeException", "java/lang/Exception"]).filter goodWord, w ∈ wsX6_refuseNoKind := by decide +kernel
set_option maxRecDepth 100000 in
theorem ta_X6_refuseNoSet_189 : ∀ w ∈ (vx_atS RX6 189 "java/lang/IllegalArgumentException" ["java/lang/RuntimeException", "java/lang/Exception"]).filter goodWord, w ∈ wsX6_refuseNoSet := by decide +kernel
set_option maxHeartbeats 4000000 in
set_option maxRecDepth 100000 in
theorem c_X6_refuseNoKind (l : Launch) {D : va_G} {T : Nat → ClassId} {dE mi : Nat} (hst : l.stackTraces = false) {A : Nat → Prop} {H : Heap} (x : Int32) : vx_Met l yX6_refuseNoKind wsX6_refuseNoKind (rmL 6 1 6) (PcE D T dE mi A H [.int x]) (QV A (fun H1 => H1 = H ∧ isK x = true)) (XX A (XE H (fun E => E = "java/lang/IllegalArgumentException" ∧ isK x = false))) 1 6 A := by
  refine entry (cc := cX6_refuseNoKind) (maxL := 1) (ret := none) (by decide) rfl (Nat.le_of_ble_eq_true rfl) ?_
  intro p e s m args below meth c hx hb hrt9 hml hown hts hlk hnt hnm hev hS ls hl
  have hown : s.vm.findClass RX6 = some m.cls := hown
  have hK := hev.1
  have hl : lv_has ls 1 [(0, .int x)] := hl
  refine lv_iload_n hx hb dX6_refuseNoKind_0 rfl (lv_at hl 0 rfl) ?_
  refine lv_if_lt (tgt := 10) hx hb dX6_refuseNoKind_1 (by decide) (fun c1 => ?_) (fun c1 => ?_)
  · exact k_thr (cls := "java/lang/IllegalArgumentException") (text := "there is no such kind") (ik := 185) (is := 237) (ic := 189) hx hb hst hown hev hS (by decide +kernel) (hts (.classLink RX6 185 "java/lang/IllegalArgumentException") (by decide +kernel)) (hts (.initialized "java/lang/IllegalArgumentException") (by decide +kernel)) (by decide +kernel) (by decide +kernel) (fun w h => hts w (ta_X6_refuseNoKind_189 w h)) (by decide +kernel) (by decide +kernel) (hl.1.trans hml.symm) dX6_refuseNoKind_10 dX6_refuseNoKind_13 dX6_refuseNoKind_14 dX6_refuseNoKind_16 dX6_refuseNoKind_19 hnt (Nat.le_of_ble_eq_true rfl) (Nat.le_of_ble_eq_true rfl) (Nat.le_of_ble_eq_true rfl) (Nat.le_of_ble_eq_true rfl) hlk ((fun H1 h1 h2 => ⟨⟨rfl, inB_neg c1⟩, h1, h2⟩)) (Nat.le_of_ble_eq_true rfl) (Nat.le_of_ble_eq_true rfl)
  · refine lv_iload_n hx hb dX6_refuseNoKind_4 rfl (lv_at hl 0 rfl) ?_
    refine lv_bipush (v := nI 6) hx hb dX6_refuseNoKind_5 (by decide) ?_
    refine lv_icmp_lt (tgt := 20) hx hb dX6_refuseNoKind_7 (by decide) (fun c7 => ?_) (fun c7 => ?_)
    · exact r_v hx hb hrt9 hlk hS (Nat.le_of_ble_eq_true rfl) (Nat.le_of_ble_eq_true rfl) dX6_refuseNoKind_20 (⟨rfl, decide_eq_true ⟨i32_nlt c1, c7⟩⟩)
    · exact k_thr (cls := "java/lang/IllegalArgumentException") (text := "there is no such kind") (ik := 185) (is := 237) (ic := 189) hx hb hst hown hev hS (by decide +kernel) (hts (.classLink RX6 185 "java/lang/IllegalArgumentException") (by decide +kernel)) (hts (.initialized "java/lang/IllegalArgumentException") (by decide +kernel)) (by decide +kernel) (by decide +kernel) (fun w h => hts w (ta_X6_refuseNoKind_189 w h)) (by decide +kernel) (by decide +kernel) (hl.1.trans hml.symm) dX6_refuseNoKind_10 dX6_refuseNoKind_13 dX6_refuseNoKind_14 dX6_refuseNoKind_16 dX6_refuseNoKind_19 hnt (Nat.le_of_ble_eq_true rfl) (Nat.le_of_ble_eq_true rfl) (Nat.le_of_ble_eq_true rfl) (Nat.le_of_ble_eq_true rfl) hlk ((fun H1 h1 h2 => ⟨⟨rfl, decide_eq_false (fun z => absurd z.2 c7)⟩, h1, h2⟩)) (Nat.le_of_ble_eq_true rfl) (Nat.le_of_ble_eq_true rfl)
theorem s64_le {x : Int32} (h : x < nI 64) : x ≤ nI 63 := by
  have h1 := Int32.lt_iff_toInt_lt.mp h
  exact Int32.le_iff_toInt_le.mpr (by rw [nI_toInt (by decide)] at h1 ⊢; omega)
set_option maxHeartbeats 4000000 in
set_option maxRecDepth 100000 in
theorem c_X6_refuseNoSet (l : Launch) {D : va_G} {T : Nat → ClassId} {dE mi : Nat} (hst : l.stackTraces = false) {A : Nat → Prop} {H : Heap} (x : Int32) : vx_Met l yX6_refuseNoSet wsX6_refuseNoSet (rmL 6 1 6) (PcE D T dE mi A H [.int x]) (QV A (fun H1 => H1 = H ∧ isS x = true)) (XX A (XE H (fun E => E = "java/lang/IllegalArgumentException" ∧ isS x = false))) 1 6 A := by
  refine entry (cc := cX6_refuseNoSet) (maxL := 1) (ret := none) (by decide) rfl (Nat.le_of_ble_eq_true rfl) ?_
  intro p e s m args below meth c hx hb hrt9 hml hown hts hlk hnt hnm hev hS ls hl
  have hown : s.vm.findClass RX6 = some m.cls := hown
  have hK := hev.1
  have hl : lv_has ls 1 [(0, .int x)] := hl
  refine lv_iload_n hx hb dX6_refuseNoSet_0 rfl (lv_at hl 0 rfl) ?_
  refine lv_if_lt (tgt := 10) hx hb dX6_refuseNoSet_1 (by decide) (fun c1 => ?_) (fun c1 => ?_)
  · exact k_thr (cls := "java/lang/IllegalArgumentException") (text := "this is no set of kinds") (ik := 185) (is := 239) (ic := 189) hx hb hst hown hev hS (by decide +kernel) (hts (.classLink RX6 185 "java/lang/IllegalArgumentException") (by decide +kernel)) (hts (.initialized "java/lang/IllegalArgumentException") (by decide +kernel)) (by decide +kernel) (by decide +kernel) (fun w h => hts w (ta_X6_refuseNoSet_189 w h)) (by decide +kernel) (by decide +kernel) (hl.1.trans hml.symm) dX6_refuseNoSet_10 dX6_refuseNoSet_13 dX6_refuseNoSet_14 dX6_refuseNoSet_16 dX6_refuseNoSet_19 hnt (Nat.le_of_ble_eq_true rfl) (Nat.le_of_ble_eq_true rfl) (Nat.le_of_ble_eq_true rfl) (Nat.le_of_ble_eq_true rfl) hlk ((fun H1 h1 h2 => ⟨⟨rfl, inB_neg c1⟩, h1, h2⟩)) (Nat.le_of_ble_eq_true rfl) (Nat.le_of_ble_eq_true rfl)
  · refine lv_iload_n hx hb dX6_refuseNoSet_4 rfl (lv_at hl 0 rfl) ?_
    refine lv_bipush (v := nI 63) hx hb dX6_refuseNoSet_5 (by decide) ?_
    refine lv_icmp_le (tgt := 20) hx hb dX6_refuseNoSet_7 (by decide) (fun c7 => ?_) (fun c7 => ?_)
    · exact r_v hx hb hrt9 hlk hS (Nat.le_of_ble_eq_true rfl) (Nat.le_of_ble_eq_true rfl) dX6_refuseNoSet_20 (⟨rfl, decide_eq_true ⟨i32_nlt c1, Int32.lt_of_le_of_lt c7 (by decide)⟩⟩)
    · exact k_thr (cls := "java/lang/IllegalArgumentException") (text := "this is no set of kinds") (ik := 185) (is := 239) (ic := 189) hx hb hst hown hev hS (by decide +kernel) (hts (.classLink RX6 185 "java/lang/IllegalArgumentException") (by decide +kernel)) (hts (.initialized "java/lang/IllegalArgumentException") (by decide +kernel)) (by decide +kernel) (by decide +kernel) (fun w h => hts w (ta_X6_refuseNoSet_189 w h)) (by decide +kernel) (by decide +kernel) (hl.1.trans hml.symm) dX6_refuseNoSet_10 dX6_refuseNoSet_13 dX6_refuseNoSet_14 dX6_refuseNoSet_16 dX6_refuseNoSet_19 hnt (Nat.le_of_ble_eq_true rfl) (Nat.le_of_ble_eq_true rfl) (Nat.le_of_ble_eq_true rfl) (Nat.le_of_ble_eq_true rfl) hlk ((fun H1 h1 h2 => ⟨⟨rfl, decide_eq_false (fun z => absurd (Int32.lt_of_lt_of_le (Int32.not_le.mp c7) (s64_le z.2)) Int32.lt_irrefl)⟩, h1, h2⟩)) (Nat.le_of_ble_eq_true rfl) (Nat.le_of_ble_eq_true rfl)

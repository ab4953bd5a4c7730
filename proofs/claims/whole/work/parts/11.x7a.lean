set_option maxRecDepth 100000 in
theorem in_X7_thrown_RX7 : ∀ w ∈ wsX70, w ∈ wsX7_thrown := by decide +kernel
set_option maxHeartbeats 4000000 in
set_option maxRecDepth 100000 in
theorem c_X7_thrown (l : Launch) {D : va_G} {T : Nat → ClassId} {dE mi : Nat} {g : Nat} {S : Nat → Int32} {Y : Nat → Nat → Int32} {H : Heap} (hR : RM D T g S Y H) : vx_Met l yX7_thrown wsX7_thrown (rmL 0 0 0) (PcE D T dE mi (AM g) H [.ref g]) (QI (AM g) (fun r H1 => H1 = H ∧ r = S 0)) (XX (AM g) (XN)) 0 0 (AM g) := by
  refine entry (cc := cX7_thrown) (maxL := 1) (ret := (some .int)) (by decide) rfl (Nat.le_of_ble_eq_true rfl) ?_
  intro p e s m args below meth c hx hb hrt9 hml hown hts hlk hnt hnm hev hS ls hl
  have hown : s.vm.findClass RX7 = some m.cls := hown
  have hK := hev.1
  have hl : lv_has ls 1 [(0, .ref g)] := hl
  refine lv_aload_n hx hb dX7_thrown_0 rfl (lv_at hl 0 rfl) ?_
  refine m_get hx hb hts in_X7_thrown_RX7 hown hK hR 0 (by decide) (hts (.fieldLink RX7 77 "ArcheloftModel" "thrown" "I") (by decide +kernel)) rfl (v := .int (S 0)) rfl dX7_thrown_1 ?_
  exact r_i hx hb hrt9 hlk hS (Nat.le_of_ble_eq_true rfl) (Nat.le_of_ble_eq_true rfl) dX7_thrown_4 (⟨rfl, rfl⟩)
set_option maxRecDepth 100000 in
theorem in_X7_tick_RX7 : ∀ w ∈ wsX70, w ∈ wsX7_tick := by decide +kernel
set_option maxHeartbeats 4000000 in
set_option maxRecDepth 100000 in
theorem c_X7_tick (l : Launch) {D : va_G} {T : Nat → ClassId} {dE mi : Nat} {g : Nat} {S : Nat → Int32} {Y : Nat → Nat → Int32} {H : Heap} (hR : RM D T g S Y H) : vx_Met l yX7_tick wsX7_tick (rmL 0 0 0) (PcE D T dE mi (AM g) H [.ref g]) (QI (AM g) (fun r H1 => RM D T g (upd S 0 (nI 0)) Y H1 ∧ r = S 1)) (XX (AM g) (XN)) 0 0 (AM g) := by
  refine entry (cc := cX7_tick) (maxL := 1) (ret := (some .int)) (by decide) rfl (Nat.le_of_ble_eq_true rfl) ?_
  intro p e s m args below meth c hx hb hrt9 hml hown hts hlk hnt hnm hev hS ls hl
  have hown : s.vm.findClass RX7 = some m.cls := hown
  have hK := hev.1
  have hl : lv_has ls 1 [(0, .ref g)] := hl
  refine lv_aload_n hx hb dX7_tick_0 rfl (lv_at hl 0 rfl) ?_
  refine lv_iconst (v := nI 0) hx hb dX7_tick_1 (by decide) ?_
  refine m_put0 (v := (nI 0)) hx hb hts in_X7_tick_RX7 hown hK hS hR (hts (.fieldLink RX7 77 "ArcheloftModel" "thrown" "I") (by decide +kernel)) dX7_tick_2 (fun H1 locs1 hR hS => ?_)
  refine lv_aload_n hx hb dX7_tick_5 rfl (lv_at hl 0 rfl) ?_
  refine m_get hx hb hts in_X7_tick_RX7 hown hK hR 1 (by decide) (hts (.fieldLink RX7 95 "ArcheloftModel" "tick" "I") (by decide +kernel)) rfl (v := .int (S 1)) rfl dX7_tick_6 ?_
  exact r_i hx hb hrt9 hlk hS (Nat.le_of_ble_eq_true rfl) (Nat.le_of_ble_eq_true rfl) dX7_tick_9 (⟨hR, rfl⟩)
set_option maxRecDepth 100000 in
theorem in_X7_rows_RX7 : ∀ w ∈ wsX70, w ∈ wsX7_rows := by decide +kernel
set_option maxHeartbeats 4000000 in
set_option maxRecDepth 100000 in
theorem c_X7_rows (l : Launch) {D : va_G} {T : Nat → ClassId} {dE mi : Nat} {g : Nat} {S : Nat → Int32} {Y : Nat → Nat → Int32} {H : Heap} (hR : RM D T g S Y H) : vx_Met l yX7_rows wsX7_rows (rmL 0 0 0) (PcE D T dE mi (AM g) H [.ref g]) (QI (AM g) (fun r H1 => RM D T g (upd S 0 (nI 0)) Y H1 ∧ r = S 12)) (XX (AM g) (XN)) 0 0 (AM g) := by
  refine entry (cc := cX7_rows) (maxL := 1) (ret := (some .int)) (by decide) rfl (Nat.le_of_ble_eq_true rfl) ?_
  intro p e s m args below meth c hx hb hrt9 hml hown hts hlk hnt hnm hev hS ls hl
  have hown : s.vm.findClass RX7 = some m.cls := hown
  have hK := hev.1
  have hl : lv_has ls 1 [(0, .ref g)] := hl
  refine lv_aload_n hx hb dX7_rows_0 rfl (lv_at hl 0 rfl) ?_
  refine lv_iconst (v := nI 0) hx hb dX7_rows_1 (by decide) ?_
  refine m_put0 (v := (nI 0)) hx hb hts in_X7_rows_RX7 hown hK hS hR (hts (.fieldLink RX7 77 "ArcheloftModel" "thrown" "I") (by decide +kernel)) dX7_rows_2 (fun H1 locs1 hR hS => ?_)
  refine lv_aload_n hx hb dX7_rows_5 rfl (lv_at hl 0 rfl) ?_
  refine m_get hx hb hts in_X7_rows_RX7 hown hK hR 12 (by decide) (hts (.fieldLink RX7 81 "ArcheloftModel" "rows" "I") (by decide +kernel)) rfl (v := .int (S 12)) rfl dX7_rows_6 ?_
  exact r_i hx hb hrt9 hlk hS (Nat.le_of_ble_eq_true rfl) (Nat.le_of_ble_eq_true rfl) dX7_rows_9 (⟨hR, rfl⟩)
set_option maxRecDepth 100000 in
theorem in_X7_handleOf_RX7 : ∀ w ∈ wsX70, w ∈ wsX7_handleOf := by decide +kernel
set_option maxHeartbeats 4000000 in
set_option maxRecDepth 100000 in
theorem c_X7_handleOf (l : Launch) {D : va_G} {T : Nat → ClassId} {dE mi : Nat} {g : Nat} {S : Nat → Int32} {Y : Nat → Nat → Int32} {H : Heap} (hR : RM D T g S Y H) {E : mE} (hE : RelE Y E) {k : Nat} (hk : k < 32) : vx_Met l yX7_handleOf wsX7_handleOf (rmL 0 0 0) (PcE D T dE mi (AM g) H [.ref g, .int (nI k)]) (QI (AM g) (fun r H1 => H1 = H ∧ r = handle E k)) (XX (AM g) (XN)) 0 0 (AM g) := by
  refine entry (cc := cX7_handleOf) (maxL := 2) (ret := (some .int)) (by decide) rfl (Nat.le_of_ble_eq_true rfl) ?_
  intro p e s m args below meth c hx hb hrt9 hml hown hts hlk hnt hnm hev hS ls hl
  have hown : s.vm.findClass RX7 = some m.cls := hown
  have hK := hev.1
  have hl : lv_has ls 2 [(0, .ref g), (1, .int (nI k))] := hl
  refine lv_iload_n hx hb dX7_handleOf_0 rfl (lv_at hl 1 rfl) ?_
  refine lv_iconst (v := -1) hx hb dX7_handleOf_1 (by decide) ?_
  refine lv_icmp_ne (tgt := 9) hx hb dX7_handleOf_2 (by decide) (fun c2 => ?_) (fun c2 => ?_)
  · refine lv_iload_n hx hb dX7_handleOf_9 rfl (lv_at hl 1 rfl) ?_
    refine lv_bipush (v := nI 32) hx hb dX7_handleOf_10 (by decide) ?_
    refine lv_aload_n hx hb dX7_handleOf_12 rfl (lv_at hl 0 rfl) ?_
    refine m_get hx hb hts in_X7_handleOf_RX7 hown hK hR 3 (by decide) (hts (.fieldLink RX7 13 "ArcheloftModel" "had" "[I") (by decide +kernel)) rfl (v := .ref (g + 2)) rfl dX7_handleOf_13 ?_
    refine lv_iload_n hx hb dX7_handleOf_16 rfl (lv_at hl 1 rfl) ?_
    refine m_ld2 (i := k) hx hb hK hR (by omega) dX7_handleOf_17 ?_
    refine x_top (y := (nI (mHad E k))) (hE.2.1 k hk) ?_
    refine y_imul hx hb dX7_handleOf_18 ?_
    refine y_iadd hx hb dX7_handleOf_19 ?_
    exact r_i hx hb hrt9 hlk hS (Nat.le_of_ble_eq_true rfl) (Nat.le_of_ble_eq_true rfl) dX7_handleOf_20 (⟨rfl, by unfold handle; rfl⟩)
  · exact absurd c2 (nI_m1 (by omega))
set_option maxHeartbeats 4000000 in
set_option maxRecDepth 100000 in
theorem c_X7_handleOfN (l : Launch) {D : va_G} {T : Nat → ClassId} {dE mi : Nat} {g : Nat} {S : Nat → Int32} {Y : Nat → Nat → Int32} {H : Heap} (hR : RM D T g S Y H) : vx_Met l yX7_handleOf wsX7_handleOf (rmL 0 0 0) (PcE D T dE mi (AM g) H [.ref g, .int ((-1))]) (QI (AM g) (fun r H1 => H1 = H ∧ r = -1)) (XX (AM g) (XN)) 0 0 (AM g) := by
  refine entry (cc := cX7_handleOf) (maxL := 2) (ret := (some .int)) (by decide) rfl (Nat.le_of_ble_eq_true rfl) ?_
  intro p e s m args below meth c hx hb hrt9 hml hown hts hlk hnt hnm hev hS ls hl
  have hown : s.vm.findClass RX7 = some m.cls := hown
  have hK := hev.1
  have hl : lv_has ls 2 [(0, .ref g), (1, .int ((-1)))] := hl
  refine lv_iload_n hx hb dX7_handleOf_0 rfl (lv_at hl 1 rfl) ?_
  refine lv_iconst (v := -1) hx hb dX7_handleOf_1 (by decide) ?_
  refine lv_icmp_ne (tgt := 9) hx hb dX7_handleOf_2 (by decide) (fun c2 => ?_) (fun c2 => ?_)
  · exact absurd rfl c2
  · refine lv_iconst (v := -1) hx hb dX7_handleOf_5 (by decide) ?_
    refine lv_goto (tgt := 20) hx hb dX7_handleOf_6 (by decide) ?_
    exact r_i hx hb hrt9 hlk hS (Nat.le_of_ble_eq_true rfl) (Nat.le_of_ble_eq_true rfl) dX7_handleOf_20 (⟨rfl, rfl⟩)
set_option maxRecDepth 100000 in
theorem in_X7_slotOf_RX7 : ∀ w ∈ wsX70, w ∈ wsX7_slotOf := by decide +kernel
set_option maxHeartbeats 4000000 in
set_option maxRecDepth 100000 in
theorem c_X7_slotOf (l : Launch) {D : va_G} {T : Nat → ClassId} {dE mi : Nat} {g : Nat} {S : Nat → Int32} {Y : Nat → Nat → Int32} {H : Heap} (hR : RM D T g S Y H) {E : mE} (hE : RelE Y E) {b : Nat} (hb0 : b ≤ 1000000) (hh : ∀ k, mHad E k ≤ b) (x : Int32) : vx_Met l yX7_slotOf wsX7_slotOf (rmL 0 0 0) (PcE D T dE mi (AM g) H [.ref g, .int x]) (QI (AM g) (fun r H1 => H1 = H ∧ r = nO (look E x))) (XX (AM g) (XN)) 0 0 (AM g) := by
  refine entry (cc := cX7_slotOf) (maxL := 3) (ret := (some .int)) (by decide) rfl (Nat.le_of_ble_eq_true rfl) ?_
  intro p e s m args below meth c hx hb hrt9 hml hown hts hlk hnt hnm hev hS ls hl
  have hown : s.vm.findClass RX7 = some m.cls := hown
  have hK := hev.1
  have hl : lv_has ls 3 [(0, .ref g), (1, .int x)] := hl
  refine lv_iload_n hx hb dX7_slotOf_0 rfl (lv_at hl 1 rfl) ?_
  refine lv_if_ge (tgt := 8) hx hb dX7_slotOf_1 (by decide) (fun c1 => ?_) (fun c1 => ?_)
  · obtain ⟨j, hj, rfl⟩ := nI_of (x := x) (fun z => absurd c1 (Int32.not_le.mpr z))
    have hl : lv_has ls 3 [(0, .ref g), (1, .int (nI j))] := hl
    refine lv_iload_n hx hb dX7_slotOf_8 rfl (lv_at hl 1 rfl) ?_
    refine lv_bipush (v := nI 32) hx hb dX7_slotOf_9 (by decide) ?_
    refine y_irem hx hb (by omega) (by omega) (by omega) dX7_slotOf_11 ?_
    refine lv_istore_n (lv' := [(2, .int (nI (j % 32))), (0, .ref g), (1, .int (nI j))]) hx hb dX7_slotOf_12 rfl hl (by decide) rfl (fun ls hl => ?_)
    refine lv_iload_n hx hb dX7_slotOf_13 rfl (lv_at hl 2 rfl) ?_
    refine y_if_lt hx hb (by omega) (tgt := 43) dX7_slotOf_14 (by decide) (fun c14 => ?_) (fun c14 => ?_)
    · exact absurd c14 id
    · refine lv_aload_n hx hb dX7_slotOf_17 rfl (lv_at hl 1 rfl) ?_
      refine m_get hx hb hts in_X7_slotOf_RX7 hown hK hR 2 (by decide) (hts (.fieldLink RX7 7 "ArcheloftModel" "isAlive" "[Z") (by decide +kernel)) rfl (v := .ref (g + 1)) rfl dX7_slotOf_18 ?_
      refine lv_iload_n hx hb dX7_slotOf_21 rfl (lv_at hl 0 rfl) ?_
      refine m_ld1 (i := j % 32) hx hb hK hR (by omega) dX7_slotOf_22 ?_
      refine x_top (y := (bI (mAl E (j % 32)))) (hE.1 _ (by omega)) ?_
      refine y_bif_eq hx hb (tgt := 43) dX7_slotOf_23 (by decide) (fun c23 => ?_) (fun c23 => ?_)
      · have hno : look E (nI j) = none := by rw [look_nI hj hb0 hh, if_neg (by rw [c23]; exact fun z => nomatch z.1)]
        refine lv_iconst (v := -1) hx hb dX7_slotOf_43 (by decide) ?_
        exact r_i hx hb hrt9 hlk hS (Nat.le_of_ble_eq_true rfl) (Nat.le_of_ble_eq_true rfl) dX7_slotOf_44 (⟨rfl, by rw [hno]; rfl⟩)
      · refine lv_aload_n hx hb dX7_slotOf_26 rfl (lv_at hl 1 rfl) ?_
        refine m_get hx hb hts in_X7_slotOf_RX7 hown hK hR 3 (by decide) (hts (.fieldLink RX7 13 "ArcheloftModel" "had" "[I") (by decide +kernel)) rfl (v := .ref (g + 2)) rfl dX7_slotOf_27 ?_
        refine lv_iload_n hx hb dX7_slotOf_30 rfl (lv_at hl 0 rfl) ?_
        refine m_ld2 (i := j % 32) hx hb hK hR (by omega) dX7_slotOf_31 ?_
        refine x_top (y := (nI (mHad E (j % 32)))) (hE.2.1 _ (by omega)) ?_
        have hq := hh (j % 32)
        refine lv_iload_n hx hb dX7_slotOf_32 rfl (lv_at hl 2 rfl) ?_
        refine lv_bipush (v := nI 32) hx hb dX7_slotOf_33 (by decide) ?_
        refine y_idiv hx hb (by omega) (by omega) (by omega) dX7_slotOf_35 ?_
        refine y_icmp_ne hx hb (by omega) (by omega) (tgt := 43) dX7_slotOf_36 (by decide) (fun c36 => ?_) (fun c36 => ?_)
        · have hno : look E (nI j) = none := by rw [look_nI hj hb0 hh, if_neg (fun z => c36 z.2)]
          refine lv_iconst (v := -1) hx hb dX7_slotOf_43 (by decide) ?_
          exact r_i hx hb hrt9 hlk hS (Nat.le_of_ble_eq_true rfl) (Nat.le_of_ble_eq_true rfl) dX7_slotOf_44 (⟨rfl, by rw [hno]; rfl⟩)
        · have hyes : look E (nI j) = some (j % 32) := by rw [look_nI hj hb0 hh, if_pos ⟨c23, c36⟩]
          refine lv_iload_n hx hb dX7_slotOf_39 rfl (lv_at hl 0 rfl) ?_
          refine lv_goto (tgt := 44) hx hb dX7_slotOf_40 (by decide) ?_
          exact r_i hx hb hrt9 hlk hS (Nat.le_of_ble_eq_true rfl) (Nat.le_of_ble_eq_true rfl) dX7_slotOf_44 (⟨rfl, by rw [hyes]; rfl⟩)
  · have cneg : x < 0 := Int32.not_le.mp c1
    refine lv_iconst (v := nI 0) hx hb dX7_slotOf_4 (by decide) ?_
    refine lv_goto (tgt := 12) hx hb dX7_slotOf_5 (by decide) ?_
    refine lv_istore_n (lv' := [(2, .int (nI 0)), (0, .ref g), (1, .int x)]) hx hb dX7_slotOf_12 rfl hl (by decide) rfl (fun ls hl => ?_)
    refine lv_iload_n hx hb dX7_slotOf_13 rfl (lv_at hl 2 rfl) ?_
    refine lv_if_lt (tgt := 43) hx hb dX7_slotOf_14 (by decide) (fun c14 => ?_) (fun c14 => ?_)
    · refine lv_iconst (v := -1) hx hb dX7_slotOf_43 (by decide) ?_
      exact r_i hx hb hrt9 hlk hS (Nat.le_of_ble_eq_true rfl) (Nat.le_of_ble_eq_true rfl) dX7_slotOf_44 (⟨rfl, by rw [look_neg cneg hb0 hh]; rfl⟩)
    · exact absurd cneg c14
set_option maxRecDepth 100000 in
theorem in_X7_has_RX7 : ∀ w ∈ wsX70, w ∈ wsX7_has := by decide +kernel
set_option maxHeartbeats 4000000 in
set_option maxRecDepth 100000 in
theorem c_X7_has (l : Launch) {D : va_G} {T : Nat → ClassId} {dE mi : Nat} {g : Nat} {S : Nat → Int32} {Y : Nat → Nat → Int32} {H : Heap} (hR : RM D T g S Y H) {k i : Nat} (hk : k < 32) : vx_Met l yX7_has wsX7_has (rmL 0 0 0) (PcE D T dE mi (AM g) H [.ref g, .int (nI k), .int (nI i)]) (QI (AM g) (fun r H1 => H1 = H ∧ r = bI (hasR (Y 3 k) i))) (XX (AM g) (XN)) 0 0 (AM g) := by
  refine entry (cc := cX7_has) (maxL := 3) (ret := (some .boolean)) (by decide) rfl (Nat.le_of_ble_eq_true rfl) ?_
  intro p e s m args below meth c hx hb hrt9 hml hown hts hlk hnt hnm hev hS ls hl
  have hown : s.vm.findClass RX7 = some m.cls := hown
  have hK := hev.1
  have hl : lv_has ls 3 [(0, .ref g), (1, .int (nI k)), (2, .int (nI i))] := hl
  refine lv_aload_n hx hb dX7_has_0 rfl (lv_at hl 0 rfl) ?_
  refine m_get hx hb hts in_X7_has_RX7 hown hK hR 4 (by decide) (hts (.fieldLink RX7 17 "ArcheloftModel" "kinds" "[I") (by decide +kernel)) rfl (v := .ref (g + 3)) rfl dX7_has_1 ?_
  refine lv_iload_n hx hb dX7_has_4 rfl (lv_at hl 1 rfl) ?_
  refine m_ld3 (i := k) hx hb hK hR (by omega) dX7_has_5 ?_
  refine lv_iload_n hx hb dX7_has_6 rfl (lv_at hl 2 rfl) ?_
  refine lv_ishr hx hb dX7_has_7 ?_
  refine lv_iconst (v := nI 1) hx hb dX7_has_8 (by decide) ?_
  refine lv_iand hx hb dX7_has_9 ?_
  refine lv_iconst (v := nI 1) hx hb dX7_has_10 (by decide) ?_
  refine lv_icmp_ne (tgt := 18) hx hb dX7_has_11 (by decide) (fun c11 => ?_) (fun c11 => ?_)
  · refine lv_iconst (v := nI 0) hx hb dX7_has_18 (by decide) ?_
    exact r_z hx hb hrt9 hlk hS (Nat.le_of_ble_eq_true rfl) (Nat.le_of_ble_eq_true rfl) dX7_has_19 rfl (⟨rfl, by unfold hasR; rw [decide_eq_false c11]; rfl⟩)
  · refine lv_iconst (v := nI 1) hx hb dX7_has_14 (by decide) ?_
    refine lv_goto (tgt := 19) hx hb dX7_has_15 (by decide) ?_
    exact r_z hx hb hrt9 hlk hS (Nat.le_of_ble_eq_true rfl) (Nat.le_of_ble_eq_true rfl) dX7_has_19 rfl (⟨rfl, by unfold hasR; rw [decide_eq_true c11]; rfl⟩)
set_option maxHeartbeats 4000000 in
set_option maxRecDepth 100000 in
theorem c_X7_isKind (l : Launch) {D : va_G} {T : Nat → ClassId} {dE mi : Nat} {A : Nat → Prop} {H : Heap} (x : Int32) : vx_Met l yX7_isKind wsX7_isKind (rmL 0 0 0) (PcE D T dE mi A H [.int x]) (QI A (fun r H1 => H1 = H ∧ r = bI (isK x))) (XX A (XN)) 0 0 A := by
  refine entry (cc := cX7_isKind) (maxL := 1) (ret := (some .boolean)) (by decide) rfl (Nat.le_of_ble_eq_true rfl) ?_
  intro p e s m args below meth c hx hb hrt9 hml hown hts hlk hnt hnm hev hS ls hl
  have hown : s.vm.findClass RX7 = some m.cls := hown
  have hK := hev.1
  have hl : lv_has ls 1 [(0, .int x)] := hl
  refine lv_iload_n hx hb dX7_isKind_0 rfl (lv_at hl 0 rfl) ?_
  refine lv_if_lt (tgt := 14) hx hb dX7_isKind_1 (by decide) (fun c1 => ?_) (fun c1 => ?_)
  · refine lv_iconst (v := nI 0) hx hb dX7_isKind_14 (by decide) ?_
    exact r_z hx hb hrt9 hlk hS (Nat.le_of_ble_eq_true rfl) (Nat.le_of_ble_eq_true rfl) dX7_isKind_15 rfl (⟨rfl, by unfold isK; rw [decide_eq_false (fun z => absurd z.1 (Int32.not_le.mpr c1))]; rfl⟩)
  · refine lv_iload_n hx hb dX7_isKind_4 rfl (lv_at hl 0 rfl) ?_
    refine lv_bipush (v := nI 6) hx hb dX7_isKind_5 (by decide) ?_
    refine lv_icmp_ge (tgt := 14) hx hb dX7_isKind_7 (by decide) (fun c7 => ?_) (fun c7 => ?_)
    · refine lv_iconst (v := nI 0) hx hb dX7_isKind_14 (by decide) ?_
      exact r_z hx hb hrt9 hlk hS (Nat.le_of_ble_eq_true rfl) (Nat.le_of_ble_eq_true rfl) dX7_isKind_15 rfl (⟨rfl, by unfold isK; rw [decide_eq_false (fun z => absurd z.2 (Int32.not_lt.mpr c7))]; rfl⟩)
    · refine lv_iconst (v := nI 1) hx hb dX7_isKind_10 (by decide) ?_
      refine lv_goto (tgt := 15) hx hb dX7_isKind_11 (by decide) ?_
      exact r_z hx hb hrt9 hlk hS (Nat.le_of_ble_eq_true rfl) (Nat.le_of_ble_eq_true rfl) dX7_isKind_15 rfl (⟨rfl, by unfold isK; rw [decide_eq_true ⟨i32_nlt c1, i32_nle c7⟩]; rfl⟩)
set_option maxHeartbeats 4000000 in
set_option maxRecDepth 100000 in
theorem c_X7_isSet (l : Launch) {D : va_G} {T : Nat → ClassId} {dE mi : Nat} {A : Nat → Prop} {H : Heap} (x : Int32) : vx_Met l yX7_isSet wsX7_isSet (rmL 0 0 0) (PcE D T dE mi A H [.int x]) (QI A (fun r H1 => H1 = H ∧ r = bI (isS x))) (XX A (XN)) 0 0 A := by
  refine entry (cc := cX7_isSet) (maxL := 1) (ret := (some .boolean)) (by decide) rfl (Nat.le_of_ble_eq_true rfl) ?_
  intro p e s m args below meth c hx hb hrt9 hml hown hts hlk hnt hnm hev hS ls hl
  have hown : s.vm.findClass RX7 = some m.cls := hown
  have hK := hev.1
  have hl : lv_has ls 1 [(0, .int x)] := hl
  refine lv_iload_n hx hb dX7_isSet_0 rfl (lv_at hl 0 rfl) ?_
  refine lv_if_lt (tgt := 14) hx hb dX7_isSet_1 (by decide) (fun c1 => ?_) (fun c1 => ?_)
  · refine lv_iconst (v := nI 0) hx hb dX7_isSet_14 (by decide) ?_
    exact r_z hx hb hrt9 hlk hS (Nat.le_of_ble_eq_true rfl) (Nat.le_of_ble_eq_true rfl) dX7_isSet_15 rfl (⟨rfl, by unfold isS; rw [decide_eq_false (fun z => absurd z.1 (Int32.not_le.mpr c1))]; rfl⟩)
  · refine lv_iload_n hx hb dX7_isSet_4 rfl (lv_at hl 0 rfl) ?_
    refine lv_bipush (v := nI 64) hx hb dX7_isSet_5 (by decide) ?_
    refine lv_icmp_ge (tgt := 14) hx hb dX7_isSet_7 (by decide) (fun c7 => ?_) (fun c7 => ?_)
    · refine lv_iconst (v := nI 0) hx hb dX7_isSet_14 (by decide) ?_
      exact r_z hx hb hrt9 hlk hS (Nat.le_of_ble_eq_true rfl) (Nat.le_of_ble_eq_true rfl) dX7_isSet_15 rfl (⟨rfl, by unfold isS; rw [decide_eq_false (fun z => absurd z.2 (Int32.not_lt.mpr c7))]; rfl⟩)
    · refine lv_iconst (v := nI 1) hx hb dX7_isSet_10 (by decide) ?_
      refine lv_goto (tgt := 15) hx hb dX7_isSet_11 (by decide) ?_
      exact r_z hx hb hrt9 hlk hS (Nat.le_of_ble_eq_true rfl) (Nat.le_of_ble_eq_true rfl) dX7_isSet_15 rfl (⟨rfl, by unfold isS; rw [decide_eq_true ⟨i32_nlt c1, i32_nle c7⟩]; rfl⟩)
set_option maxRecDepth 100000 in
theorem in_X7_isIn_RX7 : ∀ w ∈ wsX70, w ∈ wsX7_isIn := by decide +kernel
set_option maxHeartbeats 4000000 in
set_option maxRecDepth 100000 in
theorem c_X7_isIn (l : Launch) {D : va_G} {T : Nat → ClassId} {dE mi : Nat} {g : Nat} {S : Nat → Int32} {Y : Nat → Nat → Int32} {H : Heap} (hR : RM D T g S Y H) (x : Int32) {n : Nat} : vx_Met l yX7_isIn wsX7_isIn (rmL 0 0 0) (PcE D T dE mi (AM g) H [.ref g, .int x, .int (nI n)]) (QI (AM g) (fun r H1 => ∃ b, b = inB x n ∧ r = bI b ∧ RM D T g (upd S 0 (bI (!b))) Y H1)) (XX (AM g) (XN)) 0 0 (AM g) := by
  refine entry (cc := cX7_isIn) (maxL := 4) (ret := (some .boolean)) (by decide) rfl (Nat.le_of_ble_eq_true rfl) ?_
  intro p e s m args below meth c hx hb hrt9 hml hown hts hlk hnt hnm hev hS ls hl
  have hown : s.vm.findClass RX7 = some m.cls := hown
  have hK := hev.1
  have hl : lv_has ls 4 [(0, .ref g), (1, .int x), (2, .int (nI n))] := hl
  refine lv_iload_n hx hb dX7_isIn_0 rfl (lv_at hl 1 rfl) ?_
  refine lv_if_lt (tgt := 13) hx hb dX7_isIn_1 (by decide) (fun c1 => ?_) (fun c1 => ?_)
  · refine lv_iconst (v := nI 0) hx hb dX7_isIn_13 (by decide) ?_
    refine lv_istore_n (lv' := [(3, .int (nI 0)), (0, .ref g), (1, .int x), (2, .int (nI n))]) hx hb dX7_isIn_14 rfl hl (by decide) rfl (fun ls hl => ?_)
    refine lv_aload_n hx hb dX7_isIn_15 rfl (lv_at hl 1 rfl) ?_
    refine lv_iload_n hx hb dX7_isIn_16 rfl (lv_at hl 0 rfl) ?_
    refine y_if_eq hx hb (by decide) (tgt := 24) dX7_isIn_17 (by decide) (fun c17 => ?_) (fun c17 => ?_)
    · refine lv_iconst (v := nI 1) hx hb dX7_isIn_24 (by decide) ?_
      refine m_put0 (v := (nI 1)) hx hb hts in_X7_isIn_RX7 hown hK hS hR (hts (.fieldLink RX7 77 "ArcheloftModel" "thrown" "I") (by decide +kernel)) dX7_isIn_25 (fun H1 locs1 hR hS => ?_)
      refine lv_iload_n hx hb dX7_isIn_28 rfl (lv_at hl 0 rfl) ?_
      exact r_z hx hb hrt9 hlk hS (Nat.le_of_ble_eq_true rfl) (Nat.le_of_ble_eq_true rfl) dX7_isIn_29 rfl (⟨false, (inB_neg c1).symm, rfl, hR⟩)
    · exact absurd c17 (by decide)
  · refine lv_iload_n hx hb dX7_isIn_4 rfl (lv_at hl 1 rfl) ?_
    refine lv_iload_n hx hb dX7_isIn_5 rfl (lv_at hl 2 rfl) ?_
    refine lv_icmp_ge (tgt := 13) hx hb dX7_isIn_6 (by decide) (fun c6 => ?_) (fun c6 => ?_)
    · refine lv_iconst (v := nI 0) hx hb dX7_isIn_13 (by decide) ?_
      refine lv_istore_n (lv' := [(3, .int (nI 0)), (0, .ref g), (1, .int x), (2, .int (nI n))]) hx hb dX7_isIn_14 rfl hl (by decide) rfl (fun ls hl => ?_)
      refine lv_aload_n hx hb dX7_isIn_15 rfl (lv_at hl 1 rfl) ?_
      refine lv_iload_n hx hb dX7_isIn_16 rfl (lv_at hl 0 rfl) ?_
      refine y_if_eq hx hb (by decide) (tgt := 24) dX7_isIn_17 (by decide) (fun c17 => ?_) (fun c17 => ?_)
      · refine lv_iconst (v := nI 1) hx hb dX7_isIn_24 (by decide) ?_
        refine m_put0 (v := (nI 1)) hx hb hts in_X7_isIn_RX7 hown hK hS hR (hts (.fieldLink RX7 77 "ArcheloftModel" "thrown" "I") (by decide +kernel)) dX7_isIn_25 (fun H2 locs2 hR hS => ?_)
        refine lv_iload_n hx hb dX7_isIn_28 rfl (lv_at hl 0 rfl) ?_
        exact r_z hx hb hrt9 hlk hS (Nat.le_of_ble_eq_true rfl) (Nat.le_of_ble_eq_true rfl) dX7_isIn_29 rfl (⟨false, (decide_eq_false (fun z => absurd z.2 (Int32.not_lt.mpr c6))).symm, rfl, hR⟩)
      · exact absurd c17 (by decide)
    · refine lv_iconst (v := nI 1) hx hb dX7_isIn_9 (by decide) ?_
      refine lv_goto (tgt := 14) hx hb dX7_isIn_10 (by decide) ?_
      refine lv_istore_n (lv' := [(3, .int (nI 1)), (0, .ref g), (1, .int x), (2, .int (nI n))]) hx hb dX7_isIn_14 rfl hl (by decide) rfl (fun ls hl => ?_)
      refine lv_aload_n hx hb dX7_isIn_15 rfl (lv_at hl 1 rfl) ?_
      refine lv_iload_n hx hb dX7_isIn_16 rfl (lv_at hl 0 rfl) ?_
      refine y_if_eq hx hb (by decide) (tgt := 24) dX7_isIn_17 (by decide) (fun c17 => ?_) (fun c17 => ?_)
      · exact absurd c17 (by decide)
      · refine lv_iconst (v := nI 0) hx hb dX7_isIn_20 (by decide) ?_
        refine lv_goto (tgt := 25) hx hb dX7_isIn_21 (by decide) ?_
        refine m_put0 (v := (nI 0)) hx hb hts in_X7_isIn_RX7 hown hK hS hR (hts (.fieldLink RX7 77 "ArcheloftModel" "thrown" "I") (by decide +kernel)) dX7_isIn_25 (fun H3 locs3 hR hS => ?_)
        refine lv_iload_n hx hb dX7_isIn_28 rfl (lv_at hl 0 rfl) ?_
        exact r_z hx hb hrt9 hlk hS (Nat.le_of_ble_eq_true rfl) (Nat.le_of_ble_eq_true rfl) dX7_isIn_29 rfl (⟨true, (decide_eq_true ⟨i32_nlt c1, i32_nle c6⟩).symm, rfl, hR⟩)
set_option maxRecDepth 100000 in
theorem in_X7_freeSlot_RX7 : ∀ w ∈ wsX70, w ∈ wsX7_freeSlot := by decide +kernel
set_option maxHeartbeats 4000000 in
set_option maxRecDepth 100000 in
theorem c_X7_freeSlot (l : Launch) {D : va_G} {T : Nat → ClassId} {dE mi : Nat} {g : Nat} {S : Nat → Int32} {Y : Nat → Nat → Int32} {H : Heap} (hR : RM D T g S Y H) {E : mE} (hE : RelE Y E) : vx_Met l yX7_freeSlot wsX7_freeSlot (rmL 0 0 0) (PcE D T dE mi (AM g) H [.ref g]) (QI (AM g) (fun r H1 => H1 = H ∧ r = nI (free E))) (XX (AM g) (XN)) 0 0 (AM g) := by
  refine entry (cc := cX7_freeSlot) (maxL := 2) (ret := (some .int)) (by decide) rfl (Nat.le_of_ble_eq_true rfl) ?_
  intro p e s m args below meth c hx hb hrt9 hml hown hts hlk hnt hnm hev hS ls hl
  have hown : s.vm.findClass RX7 = some m.cls := hown
  have hK := hev.1
  have hl : lv_has ls 2 [(0, .ref g)] := hl
  refine lv_iconst (v := nI 0) hx hb dX7_freeSlot_0 (by decide) ?_
  refine lv_istore_n (lv' := [(1, .int (nI 0)), (0, .ref g)]) hx hb dX7_freeSlot_1 rfl hl (by decide) rfl (fun ls hl => ?_)
  have loop2 : ∀ (n : Nat) (i : Nat), 32 - i < n → (i ≤ 32) → (∀ j, j < i → mAl E j = true) → ∀ (ls : Array Slot), lv_has ls 2 [(1, .int (nI i)), (0, .ref g)] → W p l e (rmL 0 0 0) s m args below meth c H [] (0) (0) (vx_MQ below (QI (AM g) (fun r H1 => H1 = H ∧ r = nI (free E))) (XX (AM g) (XN)) args s 0 0 (AM g)) (F0 m 2 ls []) := by
    intro n
    induction n with
    | zero => intro i hfuel; exact absurd hfuel (Nat.not_lt_zero _)
    | succ n ih2 =>
      intro i hfuel hi ha ls hl
      refine lv_iload_n hx hb dX7_freeSlot_2 rfl (lv_at hl 0 rfl) ?_
      refine lv_bipush (v := nI 32) hx hb dX7_freeSlot_3 (by decide) ?_
      refine y_icmp_ge hx hb (by omega) (Nat.le_of_ble_eq_true rfl) (tgt := 23) dX7_freeSlot_5 (by decide) (fun c5 => ?_) (fun c5 => ?_)
      · refine lv_iload_n hx hb dX7_freeSlot_23 rfl (lv_at hl 0 rfl) ?_
        exact r_i hx hb hrt9 hlk hS (Nat.le_of_ble_eq_true rfl) (Nat.le_of_ble_eq_true rfl) dX7_freeSlot_24 (⟨rfl, by rw [free_is hi ha (Or.inl (by omega))]⟩)
      · refine lv_aload_n hx hb dX7_freeSlot_8 rfl (lv_at hl 1 rfl) ?_
        refine m_get hx hb hts in_X7_freeSlot_RX7 hown hK hR 2 (by decide) (hts (.fieldLink RX7 7 "ArcheloftModel" "isAlive" "[Z") (by decide +kernel)) rfl (v := .ref (g + 1)) rfl dX7_freeSlot_9 ?_
        refine lv_iload_n hx hb dX7_freeSlot_12 rfl (lv_at hl 0 rfl) ?_
        refine m_ld1 (i := i) hx hb hK hR (by omega) dX7_freeSlot_13 ?_
        refine x_top (y := (bI (mAl E i))) (hE.1 i (by omega)) ?_
        refine y_bif_eq hx hb (tgt := 23) dX7_freeSlot_14 (by decide) (fun c14 => ?_) (fun c14 => ?_)
        · refine lv_iload_n hx hb dX7_freeSlot_23 rfl (lv_at hl 0 rfl) ?_
          exact r_i hx hb hrt9 hlk hS (Nat.le_of_ble_eq_true rfl) (Nat.le_of_ble_eq_true rfl) dX7_freeSlot_24 (⟨rfl, by rw [free_is hi ha (Or.inr c14)]⟩)
        · refine lv_iinc (v := (nI (i + 1))) (lv' := [(1, .int (nI (i + 1))), (0, .ref g)]) hx hb dX7_freeSlot_17 hl (k := 0) rfl (nI_inc _) (by decide) rfl (fun ls hl => ?_)
          refine lv_goto (tgt := 2) hx hb dX7_freeSlot_20 (by decide) ?_
          exact ih2 (i + 1) (by omega) (by omega) (fun j hj => by rcases Nat.lt_succ_iff_lt_or_eq.mp hj with q | q; exact ha j q; rw [q]; exact c14) ls (lv_sub hl [0, 1] rfl)
  exact loop2 (32 - 0 + 1) 0 (Nat.lt_succ_self _) (by omega) (fun j hj => absurd hj (Nat.not_lt_zero j)) ls (lv_sub hl [0, 1] rfl)
set_option maxRecDepth 100000 in
theorem in_X7_answersBy_RX7 : ∀ w ∈ wsX70, w ∈ wsX7_answersBy := by decide +kernel
set_option maxHeartbeats 4000000 in
set_option maxRecDepth 100000 in
theorem c_X7_answersBy (l : Launch) {D : va_G} {T : Nat → ClassId} {dE mi : Nat} {g : Nat} {S : Nat → Int32} {Y : Nat → Nat → Int32} {H : Heap} (hR : RM D T g S Y H) {q a o y d : Nat} (hq : q < 8) (ha : Y 11 q = nI a) (ho : Y 12 q = nI o) (hy : Y 13 q = nI y) (ha6 : a < 64) (ho6 : o < 64) (hy6 : y < 64) (hd : d < 64) : vx_Met l yX7_answersBy wsX7_answersBy (rmL 0 0 0) (PcE D T dE mi (AM g) H [.ref g, .int (nI q), .int (nI d)]) (QI (AM g) (fun r H1 => H1 = H ∧ r = bI (ansB a o y d))) (XX (AM g) (XN)) 0 0 (AM g) := by
  refine entry (cc := cX7_answersBy) (maxL := 3) (ret := (some .boolean)) (by decide) rfl (Nat.le_of_ble_eq_true rfl) ?_
  intro p e s m args below meth c hx hb hrt9 hml hown hts hlk hnt hnm hev hS ls hl
  have hown : s.vm.findClass RX7 = some m.cls := hown
  have hK := hev.1
  have hl : lv_has ls 3 [(0, .ref g), (1, .int (nI q)), (2, .int (nI d))] := hl
  refine lv_iload_n hx hb dX7_answersBy_0 rfl (lv_at hl 2 rfl) ?_
  refine lv_aload_n hx hb dX7_answersBy_1 rfl (lv_at hl 0 rfl) ?_
  refine m_get hx hb hts in_X7_answersBy_RX7 hown hK hR 13 (by decide) (hts (.fieldLink RX7 41 "ArcheloftModel" "all" "[I") (by decide +kernel)) rfl (v := .ref (g + 11)) rfl dX7_answersBy_2 ?_
  refine lv_iload_n hx hb dX7_answersBy_5 rfl (lv_at hl 1 rfl) ?_
  refine m_ld11 (i := q) hx hb hK hR (by omega) dX7_answersBy_6 ?_
  refine x_top (y := (nI a)) (ha) ?_
  refine lv_iand hx hb dX7_answersBy_7 ?_
  refine lv_aload_n hx hb dX7_answersBy_8 rfl (lv_at hl 0 rfl) ?_
  refine m_get hx hb hts in_X7_answersBy_RX7 hown hK hR 13 (by decide) (hts (.fieldLink RX7 41 "ArcheloftModel" "all" "[I") (by decide +kernel)) rfl (v := .ref (g + 11)) rfl dX7_answersBy_9 ?_
  refine lv_iload_n hx hb dX7_answersBy_12 rfl (lv_at hl 1 rfl) ?_
  refine m_ld11 (i := q) hx hb hK hR (by omega) dX7_answersBy_13 ?_
  refine x_top (y := (nI a)) (ha) ?_
  refine lv_icmp_ne (tgt := 52) hx hb dX7_answersBy_14 (by decide) (fun c14 => ?_) (fun c14 => ?_)
  · have s1 := subB_f hd ha6 c14
    have z : ansB a o y d = false := by simp [ansB, s1]
    refine lv_iconst (v := nI 0) hx hb dX7_answersBy_52 (by decide) ?_
    exact r_z hx hb hrt9 hlk hS (Nat.le_of_ble_eq_true rfl) (Nat.le_of_ble_eq_true rfl) dX7_answersBy_53 rfl (⟨rfl, by rw [z]; rfl⟩)
  · have s1 := (bit_sub d hd a ha6).mp c14
    refine lv_iload_n hx hb dX7_answersBy_17 rfl (lv_at hl 2 rfl) ?_
    refine lv_aload_n hx hb dX7_answersBy_18 rfl (lv_at hl 0 rfl) ?_
    refine m_get hx hb hts in_X7_answersBy_RX7 hown hK hR 14 (by decide) (hts (.fieldLink RX7 44 "ArcheloftModel" "none" "[I") (by decide +kernel)) rfl (v := .ref (g + 12)) rfl dX7_answersBy_19 ?_
    refine lv_iload_n hx hb dX7_answersBy_22 rfl (lv_at hl 1 rfl) ?_
    refine m_ld12 (i := q) hx hb hK hR (by omega) dX7_answersBy_23 ?_
    refine x_top (y := (nI o)) (ho) ?_
    refine lv_iand hx hb dX7_answersBy_24 ?_
    refine lv_if_ne (tgt := 52) hx hb dX7_answersBy_25 (by decide) (fun c25 => ?_) (fun c25 => ?_)
    · have s2 := disB_f hd ho6 c25
      have z : ansB a o y d = false := by simp [ansB, s2]
      refine lv_iconst (v := nI 0) hx hb dX7_answersBy_52 (by decide) ?_
      exact r_z hx hb hrt9 hlk hS (Nat.le_of_ble_eq_true rfl) (Nat.le_of_ble_eq_true rfl) dX7_answersBy_53 rfl (⟨rfl, by rw [z]; rfl⟩)
    · have s2 := (bit_dis0 hd ho6).mp c25
      refine lv_aload_n hx hb dX7_answersBy_28 rfl (lv_at hl 0 rfl) ?_
      refine m_get hx hb hts in_X7_answersBy_RX7 hown hK hR 15 (by decide) (hts (.fieldLink RX7 47 "ArcheloftModel" "any" "[I") (by decide +kernel)) rfl (v := .ref (g + 13)) rfl dX7_answersBy_29 ?_
      refine lv_iload_n hx hb dX7_answersBy_32 rfl (lv_at hl 1 rfl) ?_
      refine m_ld13 (i := q) hx hb hK hR (by omega) dX7_answersBy_33 ?_
      refine x_top (y := (nI y)) (hy) ?_
      refine y_if_eq hx hb (by omega) (tgt := 48) dX7_answersBy_34 (by decide) (fun c34 => ?_) (fun c34 => ?_)
      · have z : ansB a o y d = true := by simp [ansB, s1, s2, c34]
        refine lv_iconst (v := nI 1) hx hb dX7_answersBy_48 (by decide) ?_
        refine lv_goto (tgt := 53) hx hb dX7_answersBy_49 (by decide) ?_
        exact r_z hx hb hrt9 hlk hS (Nat.le_of_ble_eq_true rfl) (Nat.le_of_ble_eq_true rfl) dX7_answersBy_53 rfl (⟨rfl, by rw [z]; rfl⟩)
      · refine lv_iload_n hx hb dX7_answersBy_37 rfl (lv_at hl 2 rfl) ?_
        refine lv_aload_n hx hb dX7_answersBy_38 rfl (lv_at hl 0 rfl) ?_
        refine m_get hx hb hts in_X7_answersBy_RX7 hown hK hR 15 (by decide) (hts (.fieldLink RX7 47 "ArcheloftModel" "any" "[I") (by decide +kernel)) rfl (v := .ref (g + 13)) rfl dX7_answersBy_39 ?_
        refine lv_iload_n hx hb dX7_answersBy_42 rfl (lv_at hl 1 rfl) ?_
        refine m_ld13 (i := q) hx hb hK hR (by omega) dX7_answersBy_43 ?_
        refine x_top (y := (nI y)) (hy) ?_
        refine lv_iand hx hb dX7_answersBy_44 ?_
        refine lv_if_eq (tgt := 52) hx hb dX7_answersBy_45 (by decide) (fun c45 => ?_) (fun c45 => ?_)
        · have s3 := (bit_dis0 hd hy6).mp c45
          have z : ansB a o y d = false := by simp [ansB, s3, c34]
          refine lv_iconst (v := nI 0) hx hb dX7_answersBy_52 (by decide) ?_
          exact r_z hx hb hrt9 hlk hS (Nat.le_of_ble_eq_true rfl) (Nat.le_of_ble_eq_true rfl) dX7_answersBy_53 rfl (⟨rfl, by rw [z]; rfl⟩)
        · have s3 := disB_f hd hy6 c45
          have z : ansB a o y d = true := by simp [ansB, s1, s2, s3]
          refine lv_iconst (v := nI 1) hx hb dX7_answersBy_48 (by decide) ?_
          refine lv_goto (tgt := 53) hx hb dX7_answersBy_49 (by decide) ?_
          exact r_z hx hb hrt9 hlk hS (Nat.le_of_ble_eq_true rfl) (Nat.le_of_ble_eq_true rfl) dX7_answersBy_53 rfl (⟨rfl, by rw [z]; rfl⟩)
set_option maxRecDepth 100000 in
theorem in_X7_bars_RX7 : ∀ w ∈ wsX70, w ∈ wsX7_bars := by decide +kernel
set_option maxHeartbeats 4000000 in
set_option maxRecDepth 100000 in
theorem c_X7_bars (l : Launch) {D : va_G} {T : Nat → ClassId} {dE mi : Nat} {g : Nat} {S : Nat → Int32} {Y : Nat → Nat → Int32} {H : Heap} (hR : RM D T g S Y H) {i j r1 w1 r2 w2 : Nat} (hi : i < 8) (hj : j < 8) (h1 : Y 19 i = nI r1) (h2 : Y 20 i = nI w1) (h3 : Y 19 j = nI r2) (h4 : Y 20 j = nI w2) (a1 : r1 < 64) (a2 : w1 < 64) (a3 : r2 < 64) (a4 : w2 < 64) : vx_Met l yX7_bars wsX7_bars (rmL 0 0 0) (PcE D T dE mi (AM g) H [.ref g, .int (nI i), .int (nI j)]) (QI (AM g) (fun r H1 => H1 = H ∧ r = bI (barB r1 w1 r2 w2))) (XX (AM g) (XN)) 0 0 (AM g) := by
  refine entry (cc := cX7_bars) (maxL := 3) (ret := (some .boolean)) (by decide) rfl (Nat.le_of_ble_eq_true rfl) ?_
  intro p e s m args below meth c hx hb hrt9 hml hown hts hlk hnt hnm hev hS ls hl
  have hown : s.vm.findClass RX7 = some m.cls := hown
  have hK := hev.1
  have hl : lv_has ls 3 [(0, .ref g), (1, .int (nI i)), (2, .int (nI j))] := hl
  refine lv_aload_n hx hb dX7_bars_0 rfl (lv_at hl 0 rfl) ?_
  refine m_get hx hb hts in_X7_bars_RX7 hown hK hR 27 (by decide) (hts (.fieldLink RX7 68 "ArcheloftModel" "writes" "[I") (by decide +kernel)) rfl (v := .ref (g + 20)) rfl dX7_bars_1 ?_
  refine lv_iload_n hx hb dX7_bars_4 rfl (lv_at hl 1 rfl) ?_
  refine m_ld20 (i := i) hx hb hK hR (by omega) dX7_bars_5 ?_
  refine x_top (y := (nI w1)) (h2) ?_
  refine lv_aload_n hx hb dX7_bars_6 rfl (lv_at hl 0 rfl) ?_
  refine m_get hx hb hts in_X7_bars_RX7 hown hK hR 26 (by decide) (hts (.fieldLink RX7 65 "ArcheloftModel" "reads" "[I") (by decide +kernel)) rfl (v := .ref (g + 19)) rfl dX7_bars_7 ?_
  refine lv_iload_n hx hb dX7_bars_10 rfl (lv_at hl 2 rfl) ?_
  refine m_ld19 (i := j) hx hb hK hR (by omega) dX7_bars_11 ?_
  refine x_top (y := (nI r2)) (h3) ?_
  refine lv_aload_n hx hb dX7_bars_12 rfl (lv_at hl 0 rfl) ?_
  refine m_get hx hb hts in_X7_bars_RX7 hown hK hR 27 (by decide) (hts (.fieldLink RX7 68 "ArcheloftModel" "writes" "[I") (by decide +kernel)) rfl (v := .ref (g + 20)) rfl dX7_bars_13 ?_
  refine lv_iload_n hx hb dX7_bars_16 rfl (lv_at hl 2 rfl) ?_
  refine m_ld20 (i := j) hx hb hK hR (by omega) dX7_bars_17 ?_
  refine x_top (y := (nI w2)) (h4) ?_
  refine lv_ior hx hb dX7_bars_18 ?_
  refine x_top (y := (nI (r2 ||| w2))) ((bit_or r2 a3 w2 a4).1) ?_
  refine lv_iand hx hb dX7_bars_19 ?_
  refine lv_if_ne (tgt := 39) hx hb dX7_bars_20 (by decide) (fun c20 => ?_) (fun c20 => ?_)
  · have s1 := disB_f a2 (bit_or r2 a3 w2 a4).2 c20
    have z : barB r1 w1 r2 w2 = true := by simp [barB, s1]
    refine lv_iconst (v := nI 1) hx hb dX7_bars_39 (by decide) ?_
    refine lv_goto (tgt := 44) hx hb dX7_bars_40 (by decide) ?_
    exact r_z hx hb hrt9 hlk hS (Nat.le_of_ble_eq_true rfl) (Nat.le_of_ble_eq_true rfl) dX7_bars_44 rfl (⟨rfl, by rw [z]; rfl⟩)
  · have s1 := (bit_dis0 a2 (bit_or r2 a3 w2 a4).2).mp c20
    refine lv_aload_n hx hb dX7_bars_23 rfl (lv_at hl 0 rfl) ?_
    refine m_get hx hb hts in_X7_bars_RX7 hown hK hR 27 (by decide) (hts (.fieldLink RX7 68 "ArcheloftModel" "writes" "[I") (by decide +kernel)) rfl (v := .ref (g + 20)) rfl dX7_bars_24 ?_
    refine lv_iload_n hx hb dX7_bars_27 rfl (lv_at hl 2 rfl) ?_
    refine m_ld20 (i := j) hx hb hK hR (by omega) dX7_bars_28 ?_
    refine x_top (y := (nI w2)) (h4) ?_
    refine lv_aload_n hx hb dX7_bars_29 rfl (lv_at hl 0 rfl) ?_
    refine m_get hx hb hts in_X7_bars_RX7 hown hK hR 26 (by decide) (hts (.fieldLink RX7 65 "ArcheloftModel" "reads" "[I") (by decide +kernel)) rfl (v := .ref (g + 19)) rfl dX7_bars_30 ?_
    refine lv_iload_n hx hb dX7_bars_33 rfl (lv_at hl 1 rfl) ?_
    refine m_ld19 (i := i) hx hb hK hR (by omega) dX7_bars_34 ?_
    refine x_top (y := (nI r1)) (h1) ?_
    refine lv_iand hx hb dX7_bars_35 ?_
    refine lv_if_eq (tgt := 43) hx hb dX7_bars_36 (by decide) (fun c36 => ?_) (fun c36 => ?_)
    · have s2 := (bit_dis0 a4 a1).mp c36
      have z : barB r1 w1 r2 w2 = false := by simp [barB, s1, s2]
      refine lv_iconst (v := nI 0) hx hb dX7_bars_43 (by decide) ?_
      exact r_z hx hb hrt9 hlk hS (Nat.le_of_ble_eq_true rfl) (Nat.le_of_ble_eq_true rfl) dX7_bars_44 rfl (⟨rfl, by rw [z]; rfl⟩)
    · have s2 := disB_f a4 a1 c36
      have z : barB r1 w1 r2 w2 = true := by simp [barB, s2]
      refine lv_iconst (v := nI 1) hx hb dX7_bars_39 (by decide) ?_
      refine lv_goto (tgt := 44) hx hb dX7_bars_40 (by decide) ?_
      exact r_z hx hb hrt9 hlk hS (Nat.le_of_ble_eq_true rfl) (Nat.le_of_ble_eq_true rfl) dX7_bars_44 rfl (⟨rfl, by rw [z]; rfl⟩)
set_option maxRecDepth 100000 in
theorem in_X7_enters_RX7 : ∀ w ∈ wsX70, w ∈ wsX7_enters := by decide +kernel
set_option maxHeartbeats 4000000 in
set_option maxRecDepth 100000 in
theorem c_X7_enters (l : Launch) {D : va_G} {T : Nat → ClassId} {dE mi : Nat} {g : Nat} {S : Nat → Int32} {Y : Nat → Nat → Int32} {H : Heap} (hR : RM D T g S Y H) {R : mR} (hr : RelR S Y R) {k d : Nat} (hk : k < 32) (hd : d < 64) (h3 : Y 3 k = nI d) (hn64 : rN R ≤ 64) (hnew : row R d = rN R → rN R < 64) (hz2 : ∀ q, q < rN R → rZ R q ≤ 32) (hfull : row R d < rN R → rZ R (row R d) < 32) : vx_Met l yX7_enters wsX7_enters (rmL 0 0 0) (PcE D T dE mi (AM g) H [.ref g, .int (nI k)]) (QV (AM g) (fun H1 => ∃ S1 Y1, RM D T g S1 Y1 H1 ∧ RelR S1 Y1 (rowAdd R d k) ∧ (∀ j, j ≠ 12 → S1 j = S j) ∧ ∀ j, j ≠ 7 → j ≠ 8 → j ≠ 9 → j ≠ 10 → Y1 j = Y j)) (XX (AM g) (XN)) 0 0 (AM g) := by
  refine entry (cc := cX7_enters) (maxL := 4) (ret := none) (by decide) rfl (Nat.le_of_ble_eq_true rfl) ?_
  intro p e s m args below meth c hx hb hrt9 hml hown hts hlk hnt hnm hev hS ls hl
  have hown : s.vm.findClass RX7 = some m.cls := hown
  have hK := hev.1
  have hl : lv_has ls 4 [(0, .ref g), (1, .int (nI k))] := hl
  have hle := row_le R d
  refine lv_aload_n hx hb dX7_enters_0 rfl (lv_at hl 0 rfl) ?_
  refine m_get hx hb hts in_X7_enters_RX7 hown hK hR 4 (by decide) (hts (.fieldLink RX7 17 "ArcheloftModel" "kinds" "[I") (by decide +kernel)) rfl (v := .ref (g + 3)) rfl dX7_enters_1 ?_
  refine lv_iload_n hx hb dX7_enters_4 rfl (lv_at hl 1 rfl) ?_
  refine m_ld3 (i := k) hx hb hK hR (by omega) dX7_enters_5 ?_
  refine x_top (y := (nI d)) (h3) ?_
  refine lv_istore_n (lv' := [(2, .int (nI d)), (0, .ref g), (1, .int (nI k))]) hx hb dX7_enters_6 rfl hl (by decide) rfl (fun ls hl => ?_)
  refine lv_aload_n hx hb dX7_enters_7 rfl (lv_at hl 1 rfl) ?_
  refine m_get hx hb hts in_X7_enters_RX7 hown hK hR 8 (by decide) (hts (.fieldLink RX7 29 "ArcheloftModel" "rowOf" "[I") (by decide +kernel)) rfl (v := .ref (g + 7)) rfl dX7_enters_8 ?_
  refine lv_iload_n hx hb dX7_enters_11 rfl (lv_at hl 0 rfl) ?_
  refine m_ld7 (i := d) hx hb hK hR (by omega) dX7_enters_12 ?_
  have h7 := hr.2.1 d hd
  refine lv_iconst (v := -1) hx hb dX7_enters_13 (by decide) ?_
  refine lv_icmp_ne (tgt := 47) hx hb dX7_enters_14 (by decide) (fun c14 => ?_) (fun c14 => ?_)
  · have hlt : row R d < rN R := by
      rcases Nat.lt_or_ge (row R d) (rN R) with q | q
      · exact q
      · exact absurd (by rw [h7, if_neg (by omega)]) c14
    refine lv_aload_n hx hb dX7_enters_47 rfl (lv_at hl 1 rfl) ?_
    refine m_get hx hb hts in_X7_enters_RX7 hown hK hR 8 (by decide) (hts (.fieldLink RX7 29 "ArcheloftModel" "rowOf" "[I") (by decide +kernel)) rfl (v := .ref (g + 7)) rfl dX7_enters_48 ?_
    refine lv_iload_n hx hb dX7_enters_51 rfl (lv_at hl 0 rfl) ?_
    refine m_ld7 (i := d) hx hb hK hR (by omega) dX7_enters_52 ?_
    refine x_top (y := (nI (row R d))) (by rw [h7, if_pos hlt]) ?_
    refine lv_istore_n (lv' := [(3, .int (nI (row R d))), (2, .int (nI d)), (0, .ref g), (1, .int (nI k))]) hx hb dX7_enters_53 rfl hl (by decide) rfl (fun ls hl => ?_)
    refine lv_aload_n hx hb dX7_enters_54 rfl (lv_at hl 2 rfl) ?_
    refine m_get hx hb hts in_X7_enters_RX7 hown hK hR 11 (by decide) (hts (.fieldLink RX7 38 "ArcheloftModel" "places" "[I") (by decide +kernel)) rfl (v := .ref (g + 10)) rfl dX7_enters_55 ?_
    refine lv_bipush (v := nI 32) hx hb dX7_enters_58 (by decide) ?_
    refine lv_iload_n hx hb dX7_enters_60 rfl (lv_at hl 0 rfl) ?_
    refine y_imul hx hb dX7_enters_61 ?_
    refine lv_aload_n hx hb dX7_enters_62 rfl (lv_at hl 2 rfl) ?_
    refine m_get hx hb hts in_X7_enters_RX7 hown hK hR 10 (by decide) (hts (.fieldLink RX7 35 "ArcheloftModel" "size" "[I") (by decide +kernel)) rfl (v := .ref (g + 9)) rfl dX7_enters_63 ?_
    refine lv_iload_n hx hb dX7_enters_66 rfl (lv_at hl 0 rfl) ?_
    refine m_ld9 (i := row R d) hx hb hK hR (by omega) dX7_enters_67 ?_
    have hz3 := hfull hlt
    refine x_top (y := (nI (rZ R (row R d)))) (by show Y 9 (row R d) = _; rw [hr.2.2.2.1 _ (by omega), if_pos hlt]) ?_
    refine y_iadd hx hb dX7_enters_68 ?_
    refine lv_iload_n hx hb dX7_enters_69 rfl (lv_at hl 3 rfl) ?_
    refine m_st10 (i := (32 * (row R d)) + (rZ R (row R d))) (v := (nI k)) hx hb hK hS hR (by omega) dX7_enters_70 (fun H1 locs1 hR hS => ?_)
    refine lv_aload_n hx hb dX7_enters_71 rfl (lv_at hl 2 rfl) ?_
    refine m_get hx hb hts in_X7_enters_RX7 hown hK hR 10 (by decide) (hts (.fieldLink RX7 35 "ArcheloftModel" "size" "[I") (by decide +kernel)) rfl (v := .ref (g + 9)) rfl dX7_enters_72 ?_
    refine lv_iload_n hx hb dX7_enters_75 rfl (lv_at hl 0 rfl) ?_
    refine lv_dup2_11 hx hb dX7_enters_76 rfl rfl ?_
    refine m_ld9 (i := row R d) hx hb hK hR (by omega) dX7_enters_77 ?_
    refine x_top (y := (nI (rZ R (row R d)))) (by show Y 9 (row R d) = _; rw [hr.2.2.2.1 _ (by omega), if_pos hlt]) ?_
    refine lv_iconst (v := nI 1) hx hb dX7_enters_78 (by decide) ?_
    refine y_iadd hx hb dX7_enters_79 ?_
    refine m_st9 (i := row R d) (v := (nI ((rZ R (row R d)) + 1))) hx hb hK hS hR (by omega) dX7_enters_80 (fun H2 locs2 hR hS => ?_)
    exact r_v hx hb hrt9 hlk hS (Nat.le_of_ble_eq_true rfl) (Nat.le_of_ble_eq_true rfl) dX7_enters_81 (⟨_, _, hR, by
      have he : rowEns R d = R := if_pos hlt
      show RelR _ _ (rowPush (rowEns R d) (row R d) k)
      rw [he]
      exact relR_push hr hlt hz3 hz2 rfl (fun _ => rfl) (fun _ => rfl) (fun _ => rfl) (fun _ => rfl), (fun j h => rfl), (fun j h7 h8 h9 h10 => by simp [up2, h7, h8, h9, h10])⟩)
  · have hro : row R d = rN R := by
      rcases Nat.lt_or_ge (row R d) (rN R) with q | q
      · rw [h7, if_pos q] at c14; exact absurd c14 (nI_m1 (by omega))
      · omega
    have hlt := hnew hro
    have hens : rowEns R d = (rN R + 1, nu (rS R) (rN R) d, nu (rZ R) (rN R) 0, rM R) := if_neg (by omega)
    refine lv_aload_n hx hb dX7_enters_17 rfl (lv_at hl 1 rfl) ?_
    refine m_get hx hb hts in_X7_enters_RX7 hown hK hR 8 (by decide) (hts (.fieldLink RX7 29 "ArcheloftModel" "rowOf" "[I") (by decide +kernel)) rfl (v := .ref (g + 7)) rfl dX7_enters_18 ?_
    refine lv_iload_n hx hb dX7_enters_21 rfl (lv_at hl 0 rfl) ?_
    refine lv_aload_n hx hb dX7_enters_22 rfl (lv_at hl 1 rfl) ?_
    refine m_get hx hb hts in_X7_enters_RX7 hown hK hR 12 (by decide) (hts (.fieldLink RX7 81 "ArcheloftModel" "rows" "I") (by decide +kernel)) rfl (v := .int (S 12)) rfl dX7_enters_23 ?_
    refine x_top (y := (nI (rN R))) (hr.1) ?_
    refine m_st7 (i := d) (v := (nI (rN R))) hx hb hK hS hR (by omega) dX7_enters_26 (fun H3 locs3 hR hS => ?_)
    refine lv_aload_n hx hb dX7_enters_27 rfl (lv_at hl 1 rfl) ?_
    refine m_get hx hb hts in_X7_enters_RX7 hown hK hR 9 (by decide) (hts (.fieldLink RX7 32 "ArcheloftModel" "setOf" "[I") (by decide +kernel)) rfl (v := .ref (g + 8)) rfl dX7_enters_28 ?_
    refine lv_aload_n hx hb dX7_enters_31 rfl (lv_at hl 1 rfl) ?_
    refine m_get hx hb hts in_X7_enters_RX7 hown hK hR 12 (by decide) (hts (.fieldLink RX7 81 "ArcheloftModel" "rows" "I") (by decide +kernel)) rfl (v := .int (S 12)) rfl dX7_enters_32 ?_
    refine x_top (y := (nI (rN R))) (hr.1) ?_
    refine lv_iload_n hx hb dX7_enters_35 rfl (lv_at hl 0 rfl) ?_
    refine m_st8 (i := rN R) (v := (nI d)) hx hb hK hS hR (by omega) dX7_enters_36 (fun H4 locs4 hR hS => ?_)
    refine lv_aload_n hx hb dX7_enters_37 rfl (lv_at hl 1 rfl) ?_
    refine lv_dup hx hb dX7_enters_38 rfl ?_
    refine m_get hx hb hts in_X7_enters_RX7 hown hK hR 12 (by decide) (hts (.fieldLink RX7 81 "ArcheloftModel" "rows" "I") (by decide +kernel)) rfl (v := .int (S 12)) rfl dX7_enters_39 ?_
    refine x_top (y := (nI (rN R))) (hr.1) ?_
    refine lv_iconst (v := nI 1) hx hb dX7_enters_42 (by decide) ?_
    refine y_iadd hx hb dX7_enters_43 ?_
    refine m_put12 (v := (nI ((rN R) + 1))) hx hb hts in_X7_enters_RX7 hown hK hS hR (hts (.fieldLink RX7 81 "ArcheloftModel" "rows" "I") (by decide +kernel)) dX7_enters_44 (fun H5 locs5 hR hS => ?_)
    refine lv_aload_n hx hb dX7_enters_47 rfl (lv_at hl 1 rfl) ?_
    refine m_get hx hb hts in_X7_enters_RX7 hown hK hR 8 (by decide) (hts (.fieldLink RX7 29 "ArcheloftModel" "rowOf" "[I") (by decide +kernel)) rfl (v := .ref (g + 7)) rfl dX7_enters_48 ?_
    refine lv_iload_n hx hb dX7_enters_51 rfl (lv_at hl 0 rfl) ?_
    refine m_ld7 (i := d) hx hb hK hR (by omega) dX7_enters_52 ?_
    refine x_top (y := (nI (rN R))) (by show upd (Y 7) d (nI (rN R)) d = _; simp [upd]) ?_
    refine lv_istore_n (lv' := [(3, .int (nI (rN R))), (2, .int (nI d)), (0, .ref g), (1, .int (nI k))]) hx hb dX7_enters_53 rfl hl (by decide) rfl (fun ls hl => ?_)
    refine lv_aload_n hx hb dX7_enters_54 rfl (lv_at hl 2 rfl) ?_
    refine m_get hx hb hts in_X7_enters_RX7 hown hK hR 11 (by decide) (hts (.fieldLink RX7 38 "ArcheloftModel" "places" "[I") (by decide +kernel)) rfl (v := .ref (g + 10)) rfl dX7_enters_55 ?_
    refine lv_bipush (v := nI 32) hx hb dX7_enters_58 (by decide) ?_
    refine lv_iload_n hx hb dX7_enters_60 rfl (lv_at hl 0 rfl) ?_
    refine y_imul hx hb dX7_enters_61 ?_
    refine lv_aload_n hx hb dX7_enters_62 rfl (lv_at hl 2 rfl) ?_
    refine m_get hx hb hts in_X7_enters_RX7 hown hK hR 10 (by decide) (hts (.fieldLink RX7 35 "ArcheloftModel" "size" "[I") (by decide +kernel)) rfl (v := .ref (g + 9)) rfl dX7_enters_63 ?_
    refine lv_iload_n hx hb dX7_enters_66 rfl (lv_at hl 0 rfl) ?_
    refine m_ld9 (i := rN R) hx hb hK hR (by omega) dX7_enters_67 ?_
    refine x_top (y := (nI 0)) (by show Y 9 (rN R) = _; rw [hr.2.2.2.1 _ hlt, if_neg (by omega)]; rfl) ?_
    refine y_iadd hx hb dX7_enters_68 ?_
    refine lv_iload_n hx hb dX7_enters_69 rfl (lv_at hl 3 rfl) ?_
    refine m_st10 (i := (32 * (rN R)) + 0) (v := (nI k)) hx hb hK hS hR (by omega) dX7_enters_70 (fun H6 locs6 hR hS => ?_)
    refine lv_aload_n hx hb dX7_enters_71 rfl (lv_at hl 2 rfl) ?_
    refine m_get hx hb hts in_X7_enters_RX7 hown hK hR 10 (by decide) (hts (.fieldLink RX7 35 "ArcheloftModel" "size" "[I") (by decide +kernel)) rfl (v := .ref (g + 9)) rfl dX7_enters_72 ?_
    refine lv_iload_n hx hb dX7_enters_75 rfl (lv_at hl 0 rfl) ?_
    refine lv_dup2_11 hx hb dX7_enters_76 rfl rfl ?_
    refine m_ld9 (i := rN R) hx hb hK hR (by omega) dX7_enters_77 ?_
    refine x_top (y := (nI 0)) (by show Y 9 (rN R) = _; rw [hr.2.2.2.1 _ hlt, if_neg (by omega)]; rfl) ?_
    refine lv_iconst (v := nI 1) hx hb dX7_enters_78 (by decide) ?_
    refine y_iadd hx hb dX7_enters_79 ?_
    refine m_st9 (i := rN R) (v := (nI (0 + 1))) hx hb hK hS hR (by omega) dX7_enters_80 (fun H7 locs7 hR hS => ?_)
    exact r_v hx hb hrt9 hlk hS (Nat.le_of_ble_eq_true rfl) (Nat.le_of_ble_eq_true rfl) dX7_enters_81 (⟨_, _, hR, relR_push (R := rowEns R d) (relR_new (S1 := upd S 12 (nI (rN R + 1))) (Y1 := up2 (up2 Y 7 (upd (Y 7) d (nI (rN R)))) 8 (upd (Y 8) (rN R) (nI d))) hr hro hlt rfl (fun _ => rfl) (fun _ => rfl) (fun _ => rfl) (fun _ => rfl)) (by rw [hens, hro]; exact Nat.lt_succ_self _) (by rw [hens, hro]; show nu (rZ R) (rN R) 0 (rN R) < 32; rw [nu_s]; decide) (fun q hq => by rw [hens] at hq ⊢; show nu (rZ R) (rN R) 0 q ≤ 32; by_cases cq : q = rN R; rw [cq, nu_s]; decide; rw [nu_n cq]; exact hz2 q (by have hq : q < rN R + 1 := hq; omega)) rfl (fun _ => rfl) (fun _ => rfl) (fun x => by rw [hens, hro]; show _ = if x = rN R then nI (nu (rZ R) (rN R) 0 (rN R) + 1) else _; rw [nu_s]; rfl) (fun x => by rw [hens, hro]; show _ = if x = 32 * rN R + nu (rZ R) (rN R) 0 (rN R) then _ else _; rw [nu_s]; rfl), (fun j h => by simp [upd, h]), (fun j h7 h8 h9 h10 => by simp [up2, h7, h8, h9, h10])⟩)

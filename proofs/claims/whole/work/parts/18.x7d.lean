set_option maxRecDepth 100000 in
theorem in_X7_adopt_RX7 : ∀ w ∈ wsX70, w ∈ wsX7_adopt := by decide +kernel
set_option maxHeartbeats 4000000 in
set_option maxRecDepth 100000 in
theorem c_X7_adopt (l : Launch) {D : va_G} {T : Nat → ClassId} {dE mi : Nat} {g : Nat} {S : Nat → Int32} {Y : Nat → Nat → Int32} {H : Heap} (hR : RM D T g S Y H) {M : mSt} (hM : Rel S Y M) {b : Nat} (hI : Inv b M) (x y : Int32) : vx_Met l yX7_adopt wsX7_adopt (rmL 1 0 0) (PcE D T dE mi (AM g) H [.ref g, .int x, .int y]) (QI (AM g) (fun r H1 => PM D T g (oAdopt M x y) r H1)) (XX (AM g) (XN)) 0 0 (AM g) := by
  refine entry (cc := cX7_adopt) (maxL := 7) (ret := (some .int)) (by decide) rfl (Nat.le_of_ble_eq_true rfl) ?_
  intro p e s m args below meth c hx hb hrt9 hml hown hts hlk hnt hnm hev hS ls hl
  have hown : s.vm.findClass RX7 = some m.cls := hown
  have hK := hev.1
  have hl : lv_has ls 7 [(0, .ref g), (1, .int x), (2, .int y)] := hl
  obtain ⟨hT, hE, hRw, hQ, hW, hY⟩ := id hM
  obtain ⟨iE, iR, iQ, iW, iY, hb9, hh⟩ := id hI
  have hb0 : b ≤ 1000000 := Nat.le_trans hb9 (by decide)
  refine lv_aload_n hx hb dX7_adopt_0 rfl (lv_at hl 0 rfl) ?_
  refine lv_iload_n hx hb dX7_adopt_1 rfl (lv_at hl 1 rfl) ?_
  refine k_ip (k_V (As := [.int x]) (rest := []) ⟨hx, hb, hml, hown, hts⟩ hev hS (c_X7_slotOf l hR hE hb0 hh (x)) (cwV 1 hts gX7_adopt_X7_slotOf rfl rfl rfl (by decide +kernel) ⟨Nat.le_of_ble_eq_true rfl, Nat.le_of_ble_eq_true rfl⟩) (x_recv hK hR.1 rfl) rfl hl.1 (Nat.le_of_ble_eq_true rfl) dX7_adopt_2 (Nat.le_of_ble_eq_true rfl) (Nat.le_of_ble_eq_true rfl)) hS hnt hlk (fun _ _ h _ => h.elim) (Nat.le_of_ble_eq_true rfl) (Nat.le_of_ble_eq_true rfl) (fun rq1_ H1 locs1 hP hz1 hS => ?_)
  refine W.widen (k := 0) (n := 0) (Nat.le_refl _) (Nat.le_refl _) ?_
  have hR : RM D T g S Y H1 := by rw [hP.1]; exact hR
  have er := hP.2
  rcases hlk9 : look (sE M) (x) with _ | sl
  · refine x_top (y := ((-1))) (by rw [er, hlk9]; rfl) ?_
    refine lv_istore_n (lv' := [(3, .int ((-1))), (0, .ref g), (1, .int x), (2, .int y)]) hx hb dX7_adopt_5 rfl hl (by decide) rfl (fun ls hl => ?_)
    refine lv_iload_n hx hb dX7_adopt_6 rfl (lv_at hl 3 rfl) ?_
    refine lv_iconst (v := -1) hx hb dX7_adopt_7 (by decide) ?_
    refine lv_icmp_ne (tgt := 15) hx hb dX7_adopt_8 (by decide) (fun c8 => ?_) (fun c8 => ?_)
    · refine lv_aload_n hx hb dX7_adopt_15 rfl (lv_at hl 1 rfl) ?_
      refine lv_iload_n hx hb dX7_adopt_16 rfl (lv_at hl 3 rfl) ?_
      refine k_ip (k_V (As := [.int y]) (rest := []) ⟨hx, hb, hml, hown, hts⟩ hev hS (c_X7_slotOf l hR hE hb0 hh (y)) (cwV 1 hts gX7_adopt_X7_slotOf rfl rfl rfl (by decide +kernel) ⟨Nat.le_of_ble_eq_true rfl, Nat.le_of_ble_eq_true rfl⟩) (x_recv hK hR.1 rfl) rfl hl.1 (Nat.le_of_ble_eq_true rfl) dX7_adopt_17 (Nat.le_of_ble_eq_true rfl) (Nat.le_of_ble_eq_true rfl)) hS hnt hlk (fun _ _ h _ => h.elim) (Nat.le_of_ble_eq_true rfl) (Nat.le_of_ble_eq_true rfl) (fun rq2_ H2 locs2 hP hz2 hS => ?_)
      refine W.widen (k := 0) (n := 0) (Nat.le_refl _) (Nat.le_refl _) ?_
      have hR : RM D T g S Y H2 := by rw [hP.1]; exact hR
      have er2 := hP.2
      rcases hlk8 : look (sE M) (y) with _ | p2
      · refine x_top (y := ((-1))) (by rw [er2, hlk8]; rfl) ?_
        refine lv_istore (lv' := [(4, .int ((-1))), (3, .int ((-1))), (0, .ref g), (1, .int x), (2, .int y)]) hx hb dX7_adopt_20 hl (by decide) rfl (fun ls hl => ?_)
        refine lv_iload_n hx hb dX7_adopt_22 rfl (lv_at hl 1 rfl) ?_
        refine lv_iconst (v := -1) hx hb dX7_adopt_23 (by decide) ?_
        refine lv_icmp_eq (tgt := 42) hx hb dX7_adopt_24 (by decide) (fun c24 => ?_) (fun c24 => ?_)
        · have ho : oAdopt M x y = oErr M 1 := oAdopt_1a hlk9
          refine lv_iconst (v := nI 0) hx hb dX7_adopt_42 (by decide) ?_
          refine lv_istore (lv' := [(5, .int (nI 0)), (4, .int ((-1))), (3, .int ((-1))), (0, .ref g), (1, .int x), (2, .int y)]) hx hb dX7_adopt_43 hl (by decide) rfl (fun ls hl => ?_)
          refine lv_aload_n hx hb dX7_adopt_45 rfl (lv_at hl 3 rfl) ?_
          refine lv_iload hx hb dX7_adopt_46 (lv_at hl 0 rfl) ?_
          refine y_if_ne hx hb (by decide) (tgt := 55) dX7_adopt_48 (by decide) (fun c48 => ?_) (fun c48 => ?_)
          · exact absurd c48 (by decide)
          · refine lv_iconst (v := nI 1) hx hb dX7_adopt_51 (by decide) ?_
            refine lv_goto (tgt := 87) hx hb dX7_adopt_52 (by decide) ?_
            refine m_put0 (v := (nI 1)) hx hb hts in_X7_adopt_RX7 hown hK hS hR (hts (.fieldLink RX7 77 "ArcheloftModel" "thrown" "I") (by decide +kernel)) dX7_adopt_87 (fun H3 locs3 hR hS => ?_)
            refine lv_aload_n hx hb dX7_adopt_90 rfl (lv_at hl 3 rfl) ?_
            refine m_get hx hb hts in_X7_adopt_RX7 hown hK hR 0 (by decide) (hts (.fieldLink RX7 77 "ArcheloftModel" "thrown" "I") (by decide +kernel)) rfl (v := .int (nI 1)) rfl dX7_adopt_91 ?_
            refine y_if_le hx hb (by decide) (tgt := 99) dX7_adopt_94 (by decide) (fun c94 => ?_) (fun c94 => ?_)
            · exact absurd c94 (by decide)
            · refine lv_iconst (v := nI 0) hx hb dX7_adopt_97 (by decide) ?_
              exact r_i hx hb hrt9 hlk hS (Nat.le_of_ble_eq_true rfl) (Nat.le_of_ble_eq_true rfl) dX7_adopt_98 (by rw [ho]; exact PM.err (by decide) hR hM rfl)
        · exact absurd rfl c24
      · refine x_top (y := (nI p2)) (by rw [er2, hlk8]; rfl) ?_
        obtain ⟨hp232, hp2al, hp2h⟩ := look_some hlk8
        refine lv_istore (lv' := [(4, .int (nI p2)), (3, .int ((-1))), (0, .ref g), (1, .int x), (2, .int y)]) hx hb dX7_adopt_20 hl (by decide) rfl (fun ls hl => ?_)
        refine lv_iload_n hx hb dX7_adopt_22 rfl (lv_at hl 1 rfl) ?_
        refine lv_iconst (v := -1) hx hb dX7_adopt_23 (by decide) ?_
        refine lv_icmp_eq (tgt := 42) hx hb dX7_adopt_24 (by decide) (fun c24 => ?_) (fun c24 => ?_)
        · have ho : oAdopt M x y = oErr M 1 := oAdopt_1a hlk9
          refine lv_iconst (v := nI 0) hx hb dX7_adopt_42 (by decide) ?_
          refine lv_istore (lv' := [(5, .int (nI 0)), (4, .int (nI p2)), (3, .int ((-1))), (0, .ref g), (1, .int x), (2, .int y)]) hx hb dX7_adopt_43 hl (by decide) rfl (fun ls hl => ?_)
          refine lv_aload_n hx hb dX7_adopt_45 rfl (lv_at hl 3 rfl) ?_
          refine lv_iload hx hb dX7_adopt_46 (lv_at hl 0 rfl) ?_
          refine y_if_ne hx hb (by decide) (tgt := 55) dX7_adopt_48 (by decide) (fun c48 => ?_) (fun c48 => ?_)
          · exact absurd c48 (by decide)
          · refine lv_iconst (v := nI 1) hx hb dX7_adopt_51 (by decide) ?_
            refine lv_goto (tgt := 87) hx hb dX7_adopt_52 (by decide) ?_
            refine m_put0 (v := (nI 1)) hx hb hts in_X7_adopt_RX7 hown hK hS hR (hts (.fieldLink RX7 77 "ArcheloftModel" "thrown" "I") (by decide +kernel)) dX7_adopt_87 (fun H4 locs4 hR hS => ?_)
            refine lv_aload_n hx hb dX7_adopt_90 rfl (lv_at hl 3 rfl) ?_
            refine m_get hx hb hts in_X7_adopt_RX7 hown hK hR 0 (by decide) (hts (.fieldLink RX7 77 "ArcheloftModel" "thrown" "I") (by decide +kernel)) rfl (v := .int (nI 1)) rfl dX7_adopt_91 ?_
            refine y_if_le hx hb (by decide) (tgt := 99) dX7_adopt_94 (by decide) (fun c94 => ?_) (fun c94 => ?_)
            · exact absurd c94 (by decide)
            · refine lv_iconst (v := nI 0) hx hb dX7_adopt_97 (by decide) ?_
              exact r_i hx hb hrt9 hlk hS (Nat.le_of_ble_eq_true rfl) (Nat.le_of_ble_eq_true rfl) dX7_adopt_98 (by rw [ho]; exact PM.err (by decide) hR hM rfl)
        · exact absurd rfl c24
    · refine lv_iconst (v := -1) hx hb dX7_adopt_11 (by decide) ?_
      refine lv_goto (tgt := 20) hx hb dX7_adopt_12 (by decide) ?_
      refine lv_istore (lv' := [(4, .int ((-1))), (3, .int ((-1))), (0, .ref g), (1, .int x), (2, .int y)]) hx hb dX7_adopt_20 hl (by decide) rfl (fun ls hl => ?_)
      refine lv_iload_n hx hb dX7_adopt_22 rfl (lv_at hl 1 rfl) ?_
      refine lv_iconst (v := -1) hx hb dX7_adopt_23 (by decide) ?_
      refine lv_icmp_eq (tgt := 42) hx hb dX7_adopt_24 (by decide) (fun c24 => ?_) (fun c24 => ?_)
      · have ho : oAdopt M x y = oErr M 1 := oAdopt_1a hlk9
        refine lv_iconst (v := nI 0) hx hb dX7_adopt_42 (by decide) ?_
        refine lv_istore (lv' := [(5, .int (nI 0)), (4, .int ((-1))), (3, .int ((-1))), (0, .ref g), (1, .int x), (2, .int y)]) hx hb dX7_adopt_43 hl (by decide) rfl (fun ls hl => ?_)
        refine lv_aload_n hx hb dX7_adopt_45 rfl (lv_at hl 3 rfl) ?_
        refine lv_iload hx hb dX7_adopt_46 (lv_at hl 0 rfl) ?_
        refine y_if_ne hx hb (by decide) (tgt := 55) dX7_adopt_48 (by decide) (fun c48 => ?_) (fun c48 => ?_)
        · exact absurd c48 (by decide)
        · refine lv_iconst (v := nI 1) hx hb dX7_adopt_51 (by decide) ?_
          refine lv_goto (tgt := 87) hx hb dX7_adopt_52 (by decide) ?_
          refine m_put0 (v := (nI 1)) hx hb hts in_X7_adopt_RX7 hown hK hS hR (hts (.fieldLink RX7 77 "ArcheloftModel" "thrown" "I") (by decide +kernel)) dX7_adopt_87 (fun H5 locs5 hR hS => ?_)
          refine lv_aload_n hx hb dX7_adopt_90 rfl (lv_at hl 3 rfl) ?_
          refine m_get hx hb hts in_X7_adopt_RX7 hown hK hR 0 (by decide) (hts (.fieldLink RX7 77 "ArcheloftModel" "thrown" "I") (by decide +kernel)) rfl (v := .int (nI 1)) rfl dX7_adopt_91 ?_
          refine y_if_le hx hb (by decide) (tgt := 99) dX7_adopt_94 (by decide) (fun c94 => ?_) (fun c94 => ?_)
          · exact absurd c94 (by decide)
          · refine lv_iconst (v := nI 0) hx hb dX7_adopt_97 (by decide) ?_
            exact r_i hx hb hrt9 hlk hS (Nat.le_of_ble_eq_true rfl) (Nat.le_of_ble_eq_true rfl) dX7_adopt_98 (by rw [ho]; exact PM.err (by decide) hR hM rfl)
      · exact absurd rfl c24
  · refine x_top (y := (nI sl)) (by rw [er, hlk9]; rfl) ?_
    obtain ⟨hs32, hsal, hsh⟩ := look_some hlk9
    refine lv_istore_n (lv' := [(3, .int (nI sl)), (0, .ref g), (1, .int x), (2, .int y)]) hx hb dX7_adopt_5 rfl hl (by decide) rfl (fun ls hl => ?_)
    refine lv_iload_n hx hb dX7_adopt_6 rfl (lv_at hl 3 rfl) ?_
    refine lv_iconst (v := -1) hx hb dX7_adopt_7 (by decide) ?_
    refine lv_icmp_ne (tgt := 15) hx hb dX7_adopt_8 (by decide) (fun c8 => ?_) (fun c8 => ?_)
    · refine lv_aload_n hx hb dX7_adopt_15 rfl (lv_at hl 1 rfl) ?_
      refine lv_iload_n hx hb dX7_adopt_16 rfl (lv_at hl 3 rfl) ?_
      refine k_ip (k_V (As := [.int y]) (rest := []) ⟨hx, hb, hml, hown, hts⟩ hev hS (c_X7_slotOf l hR hE hb0 hh (y)) (cwV 1 hts gX7_adopt_X7_slotOf rfl rfl rfl (by decide +kernel) ⟨Nat.le_of_ble_eq_true rfl, Nat.le_of_ble_eq_true rfl⟩) (x_recv hK hR.1 rfl) rfl hl.1 (Nat.le_of_ble_eq_true rfl) dX7_adopt_17 (Nat.le_of_ble_eq_true rfl) (Nat.le_of_ble_eq_true rfl)) hS hnt hlk (fun _ _ h _ => h.elim) (Nat.le_of_ble_eq_true rfl) (Nat.le_of_ble_eq_true rfl) (fun rq6_ H6 locs6 hP hz6 hS => ?_)
      refine W.widen (k := 0) (n := 0) (Nat.le_refl _) (Nat.le_refl _) ?_
      have hR : RM D T g S Y H6 := by rw [hP.1]; exact hR
      have er2 := hP.2
      rcases hlk8 : look (sE M) (y) with _ | p2
      · refine x_top (y := ((-1))) (by rw [er2, hlk8]; rfl) ?_
        refine lv_istore (lv' := [(4, .int ((-1))), (3, .int (nI sl)), (0, .ref g), (1, .int x), (2, .int y)]) hx hb dX7_adopt_20 hl (by decide) rfl (fun ls hl => ?_)
        refine lv_iload_n hx hb dX7_adopt_22 rfl (lv_at hl 1 rfl) ?_
        refine lv_iconst (v := -1) hx hb dX7_adopt_23 (by decide) ?_
        refine lv_icmp_eq (tgt := 42) hx hb dX7_adopt_24 (by decide) (fun c24 => ?_) (fun c24 => ?_)
        · exact absurd c24 (nI_m1 (by omega))
        · refine lv_iload_n hx hb dX7_adopt_27 rfl (lv_at hl 4 rfl) ?_
          refine lv_iconst (v := -1) hx hb dX7_adopt_28 (by decide) ?_
          refine lv_icmp_eq (tgt := 38) hx hb dX7_adopt_29 (by decide) (fun c29 => ?_) (fun c29 => ?_)
          · exact absurd c29 c8
          · refine lv_iload hx hb dX7_adopt_32 (lv_at hl 0 rfl) ?_
            refine lv_iconst (v := -1) hx hb dX7_adopt_34 (by decide) ?_
            refine lv_icmp_eq (tgt := 42) hx hb dX7_adopt_35 (by decide) (fun c35 => ?_) (fun c35 => ?_)
            · have ho : oAdopt M x y = oErr M 1 := oAdopt_1b hlk9 c8 hlk8
              refine lv_iconst (v := nI 0) hx hb dX7_adopt_42 (by decide) ?_
              refine lv_istore (lv' := [(5, .int (nI 0)), (4, .int ((-1))), (3, .int (nI sl)), (0, .ref g), (1, .int x), (2, .int y)]) hx hb dX7_adopt_43 hl (by decide) rfl (fun ls hl => ?_)
              refine lv_aload_n hx hb dX7_adopt_45 rfl (lv_at hl 3 rfl) ?_
              refine lv_iload hx hb dX7_adopt_46 (lv_at hl 0 rfl) ?_
              refine y_if_ne hx hb (by decide) (tgt := 55) dX7_adopt_48 (by decide) (fun c48 => ?_) (fun c48 => ?_)
              · exact absurd c48 (by decide)
              · refine lv_iconst (v := nI 1) hx hb dX7_adopt_51 (by decide) ?_
                refine lv_goto (tgt := 87) hx hb dX7_adopt_52 (by decide) ?_
                refine m_put0 (v := (nI 1)) hx hb hts in_X7_adopt_RX7 hown hK hS hR (hts (.fieldLink RX7 77 "ArcheloftModel" "thrown" "I") (by decide +kernel)) dX7_adopt_87 (fun H7 locs7 hR hS => ?_)
                refine lv_aload_n hx hb dX7_adopt_90 rfl (lv_at hl 3 rfl) ?_
                refine m_get hx hb hts in_X7_adopt_RX7 hown hK hR 0 (by decide) (hts (.fieldLink RX7 77 "ArcheloftModel" "thrown" "I") (by decide +kernel)) rfl (v := .int (nI 1)) rfl dX7_adopt_91 ?_
                refine y_if_le hx hb (by decide) (tgt := 99) dX7_adopt_94 (by decide) (fun c94 => ?_) (fun c94 => ?_)
                · exact absurd c94 (by decide)
                · refine lv_iconst (v := nI 0) hx hb dX7_adopt_97 (by decide) ?_
                  exact r_i hx hb hrt9 hlk hS (Nat.le_of_ble_eq_true rfl) (Nat.le_of_ble_eq_true rfl) dX7_adopt_98 (by rw [ho]; exact PM.err (by decide) hR hM rfl)
            · exact absurd rfl c35
      · refine x_top (y := (nI p2)) (by rw [er2, hlk8]; rfl) ?_
        obtain ⟨hp232, hp2al, hp2h⟩ := look_some hlk8
        refine lv_istore (lv' := [(4, .int (nI p2)), (3, .int (nI sl)), (0, .ref g), (1, .int x), (2, .int y)]) hx hb dX7_adopt_20 hl (by decide) rfl (fun ls hl => ?_)
        refine lv_iload_n hx hb dX7_adopt_22 rfl (lv_at hl 1 rfl) ?_
        refine lv_iconst (v := -1) hx hb dX7_adopt_23 (by decide) ?_
        refine lv_icmp_eq (tgt := 42) hx hb dX7_adopt_24 (by decide) (fun c24 => ?_) (fun c24 => ?_)
        · exact absurd c24 (nI_m1 (by omega))
        · refine lv_iload_n hx hb dX7_adopt_27 rfl (lv_at hl 4 rfl) ?_
          refine lv_iconst (v := -1) hx hb dX7_adopt_28 (by decide) ?_
          refine lv_icmp_eq (tgt := 38) hx hb dX7_adopt_29 (by decide) (fun c29 => ?_) (fun c29 => ?_)
          · exact absurd c29 c8
          · refine lv_iload hx hb dX7_adopt_32 (lv_at hl 0 rfl) ?_
            refine lv_iconst (v := -1) hx hb dX7_adopt_34 (by decide) ?_
            refine lv_icmp_eq (tgt := 42) hx hb dX7_adopt_35 (by decide) (fun c35 => ?_) (fun c35 => ?_)
            · exact absurd c35 (nI_m1 (by omega))
            · refine lv_iconst (v := nI 1) hx hb dX7_adopt_38 (by decide) ?_
              refine lv_goto (tgt := 43) hx hb dX7_adopt_39 (by decide) ?_
              refine lv_istore (lv' := [(5, .int (nI 1)), (4, .int (nI p2)), (3, .int (nI sl)), (0, .ref g), (1, .int x), (2, .int y)]) hx hb dX7_adopt_43 hl (by decide) rfl (fun ls hl => ?_)
              refine lv_aload_n hx hb dX7_adopt_45 rfl (lv_at hl 3 rfl) ?_
              refine lv_iload hx hb dX7_adopt_46 (lv_at hl 0 rfl) ?_
              refine y_if_ne hx hb (by decide) (tgt := 55) dX7_adopt_48 (by decide) (fun c48 => ?_) (fun c48 => ?_)
              · refine lv_iload hx hb dX7_adopt_55 (lv_at hl 1 rfl) ?_
                refine lv_iconst (v := -1) hx hb dX7_adopt_57 (by decide) ?_
                refine lv_icmp_eq (tgt := 75) hx hb dX7_adopt_58 (by decide) (fun c58 => ?_) (fun c58 => ?_)
                · exact absurd c58 (nI_m1 (by omega))
                · refine lv_aload_n hx hb dX7_adopt_61 rfl (lv_at hl 3 rfl) ?_
                  refine lv_iload hx hb dX7_adopt_62 (lv_at hl 1 rfl) ?_
                  refine lv_iload_n hx hb dX7_adopt_64 rfl (lv_at hl 2 rfl) ?_
                  refine k_ip (k_V (As := [.int (nI p2), .int (nI sl)]) (rest := [.ref g]) ⟨hx, hb, hml, hown, hts⟩ hev hS (c_X7_goesWith l hR hE iE hp2al hs32) (cwV 2 hts gX7_adopt_X7_goesWith rfl rfl rfl (by decide +kernel) ⟨Nat.le_of_ble_eq_true rfl, Nat.le_of_ble_eq_true rfl⟩) (x_recv hK hR.1 rfl) rfl hl.1 (Nat.le_of_ble_eq_true rfl) dX7_adopt_65 (Nat.le_of_ble_eq_true rfl) (Nat.le_of_ble_eq_true rfl)) hS hnt hlk (fun _ _ h _ => h.elim) (Nat.le_of_ble_eq_true rfl) (Nat.le_of_ble_eq_true rfl) (fun rq8_ H8 locs8 hP hz8 hS => ?_)
                  refine W.widen (k := 0) (n := 0) (Nat.le_refl _) (Nat.le_refl _) ?_
                  have hR : RM D T g S Y H8 := by rw [hP.1]; exact hR
                  have er3 := hP.2
                  refine x_top (y := (bI (goesB (sE M) p2 sl))) (er3) ?_
                  refine y_bif_eq hx hb (tgt := 75) dX7_adopt_68 (by decide) (fun c68 => ?_) (fun c68 => ?_)
                  · refine lv_aload_n hx hb dX7_adopt_75 rfl (lv_at hl 3 rfl) ?_
                    refine m_get hx hb hts in_X7_adopt_RX7 hown hK hR 17 (by decide) (hts (.fieldLink RX7 102 "ArcheloftModel" "isWalking" "Z") (by decide +kernel)) rfl (v := .int (S 17)) rfl dX7_adopt_76 ?_
                    refine x_top (y := (bI (wOn (sW M)))) (hW.1) ?_
                    refine y_bif_eq hx hb (tgt := 86) dX7_adopt_79 (by decide) (fun c79 => ?_) (fun c79 => ?_)
                    · have ho := oAdopt_0 hlk9 (Or.inr ⟨p2, hlk8, c68⟩) c79
                      refine lv_iconst (v := nI 0) hx hb dX7_adopt_86 (by decide) ?_
                      refine m_put0 (v := (nI 0)) hx hb hts in_X7_adopt_RX7 hown hK hS hR (hts (.fieldLink RX7 77 "ArcheloftModel" "thrown" "I") (by decide +kernel)) dX7_adopt_87 (fun H9 locs9 hR hS => ?_)
                      refine lv_aload_n hx hb dX7_adopt_90 rfl (lv_at hl 3 rfl) ?_
                      refine m_get hx hb hts in_X7_adopt_RX7 hown hK hR 0 (by decide) (hts (.fieldLink RX7 77 "ArcheloftModel" "thrown" "I") (by decide +kernel)) rfl (v := .int (nI 0)) rfl dX7_adopt_91 ?_
                      refine y_if_le hx hb (by decide) (tgt := 99) dX7_adopt_94 (by decide) (fun c94 => ?_) (fun c94 => ?_)
                      · refine lv_aload_n hx hb dX7_adopt_99 rfl (lv_at hl 3 rfl) ?_
                        refine lv_aload_n hx hb dX7_adopt_100 rfl (lv_at hl 3 rfl) ?_
                        refine m_get hx hb hts in_X7_adopt_RX7 hown hK hR 5 (by decide) (hts (.fieldLink RX7 20 "ArcheloftModel" "parent" "[I") (by decide +kernel)) rfl (v := .ref (g + 4)) rfl dX7_adopt_101 ?_
                        refine lv_iload_n hx hb dX7_adopt_104 rfl (lv_at hl 2 rfl) ?_
                        refine m_ld4 (i := sl) hx hb hK hR (by omega) dX7_adopt_105 ?_
                        rcases hpp : mPar (sE M) sl with _ | q9
                        · refine x_top (y := ((-1))) (by show Y 4 sl = _; rw [hE.2.2.2.1 sl hs32 hsal, hpp]; rfl) ?_
                          refine k_ip (k_V (As := [.int ((-1))]) (rest := []) ⟨hx, hb, hml, hown, hts⟩ hev hS (c_X7_handleOfN l hR) (cwV 1 hts gX7_adopt_X7_handleOf rfl rfl rfl (by decide +kernel) ⟨Nat.le_of_ble_eq_true rfl, Nat.le_of_ble_eq_true rfl⟩) (x_recv hK hR.1 rfl) rfl hl.1 (Nat.le_of_ble_eq_true rfl) dX7_adopt_106 (Nat.le_of_ble_eq_true rfl) (Nat.le_of_ble_eq_true rfl)) hS hnt hlk (fun _ _ h _ => h.elim) (Nat.le_of_ble_eq_true rfl) (Nat.le_of_ble_eq_true rfl) (fun rq10_ H10 locs10 hP hz10 hS => ?_)
                          refine W.widen (k := 0) (n := 0) (Nat.le_refl _) (Nat.le_refl _) ?_
                          have hR : RM D T g (upd S 0 (nI 0)) Y H10 := by rw [hP.1]; exact hR
                          have er4 := hP.2
                          refine lv_istore (lv' := [(6, .int rq10_), (5, .int (nI 1)), (4, .int (nI p2)), (3, .int (nI sl)), (0, .ref g), (1, .int x), (2, .int y)]) hx hb dX7_adopt_109 hl (by decide) rfl (fun ls hl => ?_)
                          refine lv_aload_n hx hb dX7_adopt_111 rfl (lv_at hl 4 rfl) ?_
                          refine m_get hx hb hts in_X7_adopt_RX7 hown hK hR 5 (by decide) (hts (.fieldLink RX7 20 "ArcheloftModel" "parent" "[I") (by decide +kernel)) rfl (v := .ref (g + 4)) rfl dX7_adopt_112 ?_
                          refine lv_iload_n hx hb dX7_adopt_115 rfl (lv_at hl 3 rfl) ?_
                          refine lv_iload hx hb dX7_adopt_116 (lv_at hl 2 rfl) ?_
                          refine m_st4 (i := sl) (v := (nI p2)) hx hb hK hS hR (by omega) dX7_adopt_118 (fun H11 locs11 hR hS => ?_)
                          refine lv_iload hx hb dX7_adopt_119 (lv_at hl 0 rfl) ?_
                          exact r_i hx hb hrt9 hlk hS (Nat.le_of_ble_eq_true rfl) (Nat.le_of_ble_eq_true rfl) dX7_adopt_121 (by
                                rw [ho]
                                exact PM.ok hR (hM.e (relE_par hE (o := lookO (sE M) y) (fun z => by rw [show lookO (sE M) y = some p2 from by rw [lookO_n c8]; exact hlk8]; rfl) (fun j h1 h2 => by simp only [up2]; rw [if_neg h2])) (fun j h => by simp [upd, h]) (fun j h1 h2 => by simp only [up2]; rw [if_neg (by omega)]) (fun z => by rw [c79] at z; cases z)) rfl (by rw [hpp]; exact er4))
                        · refine x_top (y := (nI q9)) (by show Y 4 sl = _; rw [hE.2.2.2.1 sl hs32 hsal, hpp]; rfl) ?_
                          have hq32 := par_lt iE hpp
                          refine k_ip (k_V (As := [.int (nI q9)]) (rest := []) ⟨hx, hb, hml, hown, hts⟩ hev hS (c_X7_handleOf l hR hE hq32) (cwV 1 hts gX7_adopt_X7_handleOf rfl rfl rfl (by decide +kernel) ⟨Nat.le_of_ble_eq_true rfl, Nat.le_of_ble_eq_true rfl⟩) (x_recv hK hR.1 rfl) rfl hl.1 (Nat.le_of_ble_eq_true rfl) dX7_adopt_106 (Nat.le_of_ble_eq_true rfl) (Nat.le_of_ble_eq_true rfl)) hS hnt hlk (fun _ _ h _ => h.elim) (Nat.le_of_ble_eq_true rfl) (Nat.le_of_ble_eq_true rfl) (fun rq12_ H12 locs12 hP hz12 hS => ?_)
                          refine W.widen (k := 0) (n := 0) (Nat.le_refl _) (Nat.le_refl _) ?_
                          have hR : RM D T g (upd S 0 (nI 0)) Y H12 := by rw [hP.1]; exact hR
                          have er4 := hP.2
                          refine lv_istore (lv' := [(6, .int rq12_), (5, .int (nI 1)), (4, .int (nI p2)), (3, .int (nI sl)), (0, .ref g), (1, .int x), (2, .int y)]) hx hb dX7_adopt_109 hl (by decide) rfl (fun ls hl => ?_)
                          refine lv_aload_n hx hb dX7_adopt_111 rfl (lv_at hl 4 rfl) ?_
                          refine m_get hx hb hts in_X7_adopt_RX7 hown hK hR 5 (by decide) (hts (.fieldLink RX7 20 "ArcheloftModel" "parent" "[I") (by decide +kernel)) rfl (v := .ref (g + 4)) rfl dX7_adopt_112 ?_
                          refine lv_iload_n hx hb dX7_adopt_115 rfl (lv_at hl 3 rfl) ?_
                          refine lv_iload hx hb dX7_adopt_116 (lv_at hl 2 rfl) ?_
                          refine m_st4 (i := sl) (v := (nI p2)) hx hb hK hS hR (by omega) dX7_adopt_118 (fun H13 locs13 hR hS => ?_)
                          refine lv_iload hx hb dX7_adopt_119 (lv_at hl 0 rfl) ?_
                          exact r_i hx hb hrt9 hlk hS (Nat.le_of_ble_eq_true rfl) (Nat.le_of_ble_eq_true rfl) dX7_adopt_121 (by
                                rw [ho]
                                exact PM.ok hR (hM.e (relE_par hE (o := lookO (sE M) y) (fun z => by rw [show lookO (sE M) y = some p2 from by rw [lookO_n c8]; exact hlk8]; rfl) (fun j h1 h2 => by simp only [up2]; rw [if_neg h2])) (fun j h => by simp [upd, h]) (fun j h1 h2 => by simp only [up2]; rw [if_neg (by omega)]) (fun z => by rw [c79] at z; cases z)) rfl (by rw [hpp]; exact er4))
                      · exact absurd c94 (by decide)
                    · have ho : oAdopt M x y = oErr M 3 := oAdopt_3 hlk9 (Or.inr ⟨p2, hlk8, c68⟩) c79
                      refine lv_iconst (v := nI 3) hx hb dX7_adopt_82 (by decide) ?_
                      refine lv_goto (tgt := 87) hx hb dX7_adopt_83 (by decide) ?_
                      refine m_put0 (v := (nI 3)) hx hb hts in_X7_adopt_RX7 hown hK hS hR (hts (.fieldLink RX7 77 "ArcheloftModel" "thrown" "I") (by decide +kernel)) dX7_adopt_87 (fun H14 locs14 hR hS => ?_)
                      refine lv_aload_n hx hb dX7_adopt_90 rfl (lv_at hl 3 rfl) ?_
                      refine m_get hx hb hts in_X7_adopt_RX7 hown hK hR 0 (by decide) (hts (.fieldLink RX7 77 "ArcheloftModel" "thrown" "I") (by decide +kernel)) rfl (v := .int (nI 3)) rfl dX7_adopt_91 ?_
                      refine y_if_le hx hb (by decide) (tgt := 99) dX7_adopt_94 (by decide) (fun c94 => ?_) (fun c94 => ?_)
                      · exact absurd c94 (by decide)
                      · refine lv_iconst (v := nI 0) hx hb dX7_adopt_97 (by decide) ?_
                        exact r_i hx hb hrt9 hlk hS (Nat.le_of_ble_eq_true rfl) (Nat.le_of_ble_eq_true rfl) dX7_adopt_98 (by rw [ho]; exact PM.err (by decide) hR hM rfl)
                  · have ho : oAdopt M x y = oErr M 2 := oAdopt_2 hlk9 c8 hlk8 c68
                    refine lv_iconst (v := nI 2) hx hb dX7_adopt_71 (by decide) ?_
                    refine lv_goto (tgt := 87) hx hb dX7_adopt_72 (by decide) ?_
                    refine m_put0 (v := (nI 2)) hx hb hts in_X7_adopt_RX7 hown hK hS hR (hts (.fieldLink RX7 77 "ArcheloftModel" "thrown" "I") (by decide +kernel)) dX7_adopt_87 (fun H15 locs15 hR hS => ?_)
                    refine lv_aload_n hx hb dX7_adopt_90 rfl (lv_at hl 3 rfl) ?_
                    refine m_get hx hb hts in_X7_adopt_RX7 hown hK hR 0 (by decide) (hts (.fieldLink RX7 77 "ArcheloftModel" "thrown" "I") (by decide +kernel)) rfl (v := .int (nI 2)) rfl dX7_adopt_91 ?_
                    refine y_if_le hx hb (by decide) (tgt := 99) dX7_adopt_94 (by decide) (fun c94 => ?_) (fun c94 => ?_)
                    · exact absurd c94 (by decide)
                    · refine lv_iconst (v := nI 0) hx hb dX7_adopt_97 (by decide) ?_
                      exact r_i hx hb hrt9 hlk hS (Nat.le_of_ble_eq_true rfl) (Nat.le_of_ble_eq_true rfl) dX7_adopt_98 (by rw [ho]; exact PM.err (by decide) hR hM rfl)
              · exact absurd c48 (by decide)
    · refine lv_iconst (v := -1) hx hb dX7_adopt_11 (by decide) ?_
      refine lv_goto (tgt := 20) hx hb dX7_adopt_12 (by decide) ?_
      refine lv_istore (lv' := [(4, .int ((-1))), (3, .int (nI sl)), (0, .ref g), (1, .int x), (2, .int y)]) hx hb dX7_adopt_20 hl (by decide) rfl (fun ls hl => ?_)
      refine lv_iload_n hx hb dX7_adopt_22 rfl (lv_at hl 1 rfl) ?_
      refine lv_iconst (v := -1) hx hb dX7_adopt_23 (by decide) ?_
      refine lv_icmp_eq (tgt := 42) hx hb dX7_adopt_24 (by decide) (fun c24 => ?_) (fun c24 => ?_)
      · exact absurd c24 (nI_m1 (by omega))
      · refine lv_iload_n hx hb dX7_adopt_27 rfl (lv_at hl 4 rfl) ?_
        refine lv_iconst (v := -1) hx hb dX7_adopt_28 (by decide) ?_
        refine lv_icmp_eq (tgt := 38) hx hb dX7_adopt_29 (by decide) (fun c29 => ?_) (fun c29 => ?_)
        · refine lv_iconst (v := nI 1) hx hb dX7_adopt_38 (by decide) ?_
          refine lv_goto (tgt := 43) hx hb dX7_adopt_39 (by decide) ?_
          refine lv_istore (lv' := [(5, .int (nI 1)), (4, .int ((-1))), (3, .int (nI sl)), (0, .ref g), (1, .int x), (2, .int y)]) hx hb dX7_adopt_43 hl (by decide) rfl (fun ls hl => ?_)
          refine lv_aload_n hx hb dX7_adopt_45 rfl (lv_at hl 3 rfl) ?_
          refine lv_iload hx hb dX7_adopt_46 (lv_at hl 0 rfl) ?_
          refine y_if_ne hx hb (by decide) (tgt := 55) dX7_adopt_48 (by decide) (fun c48 => ?_) (fun c48 => ?_)
          · refine lv_iload hx hb dX7_adopt_55 (lv_at hl 1 rfl) ?_
            refine lv_iconst (v := -1) hx hb dX7_adopt_57 (by decide) ?_
            refine lv_icmp_eq (tgt := 75) hx hb dX7_adopt_58 (by decide) (fun c58 => ?_) (fun c58 => ?_)
            · refine lv_aload_n hx hb dX7_adopt_75 rfl (lv_at hl 3 rfl) ?_
              refine m_get hx hb hts in_X7_adopt_RX7 hown hK hR 17 (by decide) (hts (.fieldLink RX7 102 "ArcheloftModel" "isWalking" "Z") (by decide +kernel)) rfl (v := .int (S 17)) rfl dX7_adopt_76 ?_
              refine x_top (y := (bI (wOn (sW M)))) (hW.1) ?_
              refine y_bif_eq hx hb (tgt := 86) dX7_adopt_79 (by decide) (fun c79 => ?_) (fun c79 => ?_)
              · have ho := oAdopt_0 hlk9 (Or.inl c8) c79
                refine lv_iconst (v := nI 0) hx hb dX7_adopt_86 (by decide) ?_
                refine m_put0 (v := (nI 0)) hx hb hts in_X7_adopt_RX7 hown hK hS hR (hts (.fieldLink RX7 77 "ArcheloftModel" "thrown" "I") (by decide +kernel)) dX7_adopt_87 (fun H16 locs16 hR hS => ?_)
                refine lv_aload_n hx hb dX7_adopt_90 rfl (lv_at hl 3 rfl) ?_
                refine m_get hx hb hts in_X7_adopt_RX7 hown hK hR 0 (by decide) (hts (.fieldLink RX7 77 "ArcheloftModel" "thrown" "I") (by decide +kernel)) rfl (v := .int (nI 0)) rfl dX7_adopt_91 ?_
                refine y_if_le hx hb (by decide) (tgt := 99) dX7_adopt_94 (by decide) (fun c94 => ?_) (fun c94 => ?_)
                · refine lv_aload_n hx hb dX7_adopt_99 rfl (lv_at hl 3 rfl) ?_
                  refine lv_aload_n hx hb dX7_adopt_100 rfl (lv_at hl 3 rfl) ?_
                  refine m_get hx hb hts in_X7_adopt_RX7 hown hK hR 5 (by decide) (hts (.fieldLink RX7 20 "ArcheloftModel" "parent" "[I") (by decide +kernel)) rfl (v := .ref (g + 4)) rfl dX7_adopt_101 ?_
                  refine lv_iload_n hx hb dX7_adopt_104 rfl (lv_at hl 2 rfl) ?_
                  refine m_ld4 (i := sl) hx hb hK hR (by omega) dX7_adopt_105 ?_
                  rcases hpp : mPar (sE M) sl with _ | q9
                  · refine x_top (y := ((-1))) (by show Y 4 sl = _; rw [hE.2.2.2.1 sl hs32 hsal, hpp]; rfl) ?_
                    refine k_ip (k_V (As := [.int ((-1))]) (rest := []) ⟨hx, hb, hml, hown, hts⟩ hev hS (c_X7_handleOfN l hR) (cwV 1 hts gX7_adopt_X7_handleOf rfl rfl rfl (by decide +kernel) ⟨Nat.le_of_ble_eq_true rfl, Nat.le_of_ble_eq_true rfl⟩) (x_recv hK hR.1 rfl) rfl hl.1 (Nat.le_of_ble_eq_true rfl) dX7_adopt_106 (Nat.le_of_ble_eq_true rfl) (Nat.le_of_ble_eq_true rfl)) hS hnt hlk (fun _ _ h _ => h.elim) (Nat.le_of_ble_eq_true rfl) (Nat.le_of_ble_eq_true rfl) (fun rq17_ H17 locs17 hP hz17 hS => ?_)
                    refine W.widen (k := 0) (n := 0) (Nat.le_refl _) (Nat.le_refl _) ?_
                    have hR : RM D T g (upd S 0 (nI 0)) Y H17 := by rw [hP.1]; exact hR
                    have er4 := hP.2
                    refine lv_istore (lv' := [(6, .int rq17_), (5, .int (nI 1)), (4, .int ((-1))), (3, .int (nI sl)), (0, .ref g), (1, .int x), (2, .int y)]) hx hb dX7_adopt_109 hl (by decide) rfl (fun ls hl => ?_)
                    refine lv_aload_n hx hb dX7_adopt_111 rfl (lv_at hl 4 rfl) ?_
                    refine m_get hx hb hts in_X7_adopt_RX7 hown hK hR 5 (by decide) (hts (.fieldLink RX7 20 "ArcheloftModel" "parent" "[I") (by decide +kernel)) rfl (v := .ref (g + 4)) rfl dX7_adopt_112 ?_
                    refine lv_iload_n hx hb dX7_adopt_115 rfl (lv_at hl 3 rfl) ?_
                    refine lv_iload hx hb dX7_adopt_116 (lv_at hl 2 rfl) ?_
                    refine m_st4 (i := sl) (v := ((-1))) hx hb hK hS hR (by omega) dX7_adopt_118 (fun H18 locs18 hR hS => ?_)
                    refine lv_iload hx hb dX7_adopt_119 (lv_at hl 0 rfl) ?_
                    exact r_i hx hb hrt9 hlk hS (Nat.le_of_ble_eq_true rfl) (Nat.le_of_ble_eq_true rfl) dX7_adopt_121 (by
                          rw [ho]
                          exact PM.ok hR (hM.e (relE_par hE (o := lookO (sE M) y) (fun z => by rw [show lookO (sE M) y = none from by rw [c8]; exact lookO_m]; rfl) (fun j h1 h2 => by simp only [up2]; rw [if_neg h2])) (fun j h => by simp [upd, h]) (fun j h1 h2 => by simp only [up2]; rw [if_neg (by omega)]) (fun z => by rw [c79] at z; cases z)) rfl (by rw [hpp]; exact er4))
                  · refine x_top (y := (nI q9)) (by show Y 4 sl = _; rw [hE.2.2.2.1 sl hs32 hsal, hpp]; rfl) ?_
                    have hq32 := par_lt iE hpp
                    refine k_ip (k_V (As := [.int (nI q9)]) (rest := []) ⟨hx, hb, hml, hown, hts⟩ hev hS (c_X7_handleOf l hR hE hq32) (cwV 1 hts gX7_adopt_X7_handleOf rfl rfl rfl (by decide +kernel) ⟨Nat.le_of_ble_eq_true rfl, Nat.le_of_ble_eq_true rfl⟩) (x_recv hK hR.1 rfl) rfl hl.1 (Nat.le_of_ble_eq_true rfl) dX7_adopt_106 (Nat.le_of_ble_eq_true rfl) (Nat.le_of_ble_eq_true rfl)) hS hnt hlk (fun _ _ h _ => h.elim) (Nat.le_of_ble_eq_true rfl) (Nat.le_of_ble_eq_true rfl) (fun rq19_ H19 locs19 hP hz19 hS => ?_)
                    refine W.widen (k := 0) (n := 0) (Nat.le_refl _) (Nat.le_refl _) ?_
                    have hR : RM D T g (upd S 0 (nI 0)) Y H19 := by rw [hP.1]; exact hR
                    have er4 := hP.2
                    refine lv_istore (lv' := [(6, .int rq19_), (5, .int (nI 1)), (4, .int ((-1))), (3, .int (nI sl)), (0, .ref g), (1, .int x), (2, .int y)]) hx hb dX7_adopt_109 hl (by decide) rfl (fun ls hl => ?_)
                    refine lv_aload_n hx hb dX7_adopt_111 rfl (lv_at hl 4 rfl) ?_
                    refine m_get hx hb hts in_X7_adopt_RX7 hown hK hR 5 (by decide) (hts (.fieldLink RX7 20 "ArcheloftModel" "parent" "[I") (by decide +kernel)) rfl (v := .ref (g + 4)) rfl dX7_adopt_112 ?_
                    refine lv_iload_n hx hb dX7_adopt_115 rfl (lv_at hl 3 rfl) ?_
                    refine lv_iload hx hb dX7_adopt_116 (lv_at hl 2 rfl) ?_
                    refine m_st4 (i := sl) (v := ((-1))) hx hb hK hS hR (by omega) dX7_adopt_118 (fun H20 locs20 hR hS => ?_)
                    refine lv_iload hx hb dX7_adopt_119 (lv_at hl 0 rfl) ?_
                    exact r_i hx hb hrt9 hlk hS (Nat.le_of_ble_eq_true rfl) (Nat.le_of_ble_eq_true rfl) dX7_adopt_121 (by
                          rw [ho]
                          exact PM.ok hR (hM.e (relE_par hE (o := lookO (sE M) y) (fun z => by rw [show lookO (sE M) y = none from by rw [c8]; exact lookO_m]; rfl) (fun j h1 h2 => by simp only [up2]; rw [if_neg h2])) (fun j h => by simp [upd, h]) (fun j h1 h2 => by simp only [up2]; rw [if_neg (by omega)]) (fun z => by rw [c79] at z; cases z)) rfl (by rw [hpp]; exact er4))
                · exact absurd c94 (by decide)
              · have ho : oAdopt M x y = oErr M 3 := oAdopt_3 hlk9 (Or.inl c8) c79
                refine lv_iconst (v := nI 3) hx hb dX7_adopt_82 (by decide) ?_
                refine lv_goto (tgt := 87) hx hb dX7_adopt_83 (by decide) ?_
                refine m_put0 (v := (nI 3)) hx hb hts in_X7_adopt_RX7 hown hK hS hR (hts (.fieldLink RX7 77 "ArcheloftModel" "thrown" "I") (by decide +kernel)) dX7_adopt_87 (fun H21 locs21 hR hS => ?_)
                refine lv_aload_n hx hb dX7_adopt_90 rfl (lv_at hl 3 rfl) ?_
                refine m_get hx hb hts in_X7_adopt_RX7 hown hK hR 0 (by decide) (hts (.fieldLink RX7 77 "ArcheloftModel" "thrown" "I") (by decide +kernel)) rfl (v := .int (nI 3)) rfl dX7_adopt_91 ?_
                refine y_if_le hx hb (by decide) (tgt := 99) dX7_adopt_94 (by decide) (fun c94 => ?_) (fun c94 => ?_)
                · exact absurd c94 (by decide)
                · refine lv_iconst (v := nI 0) hx hb dX7_adopt_97 (by decide) ?_
                  exact r_i hx hb hrt9 hlk hS (Nat.le_of_ble_eq_true rfl) (Nat.le_of_ble_eq_true rfl) dX7_adopt_98 (by rw [ho]; exact PM.err (by decide) hR hM rfl)
            · exact absurd rfl c58
          · exact absurd c48 (by decide)
        · exact absurd c8 c29
set_option maxRecDepth 100000 in
theorem in_X7_entities_RX7 : ∀ w ∈ wsX70, w ∈ wsX7_entities := by decide +kernel
set_option maxHeartbeats 4000000 in
set_option maxRecDepth 100000 in
theorem c_X7_entities (l : Launch) {D : va_G} {T : Nat → ClassId} {dE mi : Nat} {g : Nat} {S : Nat → Int32} {Y : Nat → Nat → Int32} {H : Heap} (hR : RM D T g S Y H) {M : mSt} (hM : Rel S Y M) {b : Nat} (hI : Inv b M) : vx_Met l yX7_entities wsX7_entities (rmL 0 0 0) (PcE D T dE mi (AM g) H [.ref g]) (QI (AM g) (fun r H1 => PM D T g (oEntities M) r H1)) (XX (AM g) (XN)) 0 0 (AM g) := by
  refine entry (cc := cX7_entities) (maxL := 3) (ret := (some .int)) (by decide) rfl (Nat.le_of_ble_eq_true rfl) ?_
  intro p e s m args below meth c hx hb hrt9 hml hown hts hlk hnt hnm hev hS ls hl
  have hown : s.vm.findClass RX7 = some m.cls := hown
  have hK := hev.1
  have hl : lv_has ls 3 [(0, .ref g)] := hl
  obtain ⟨hT, hE, hRw, hQ, hW, hY⟩ := id hM
  obtain ⟨iE, iR, iQ, iW, iY, hb9, hh⟩ := id hI
  have hb0 : b ≤ 1000000 := Nat.le_trans hb9 (by decide)
  refine lv_aload_n hx hb dX7_entities_0 rfl (lv_at hl 0 rfl) ?_
  refine lv_iconst (v := nI 0) hx hb dX7_entities_1 (by decide) ?_
  refine m_put0 (v := (nI 0)) hx hb hts in_X7_entities_RX7 hown hK hS hR (hts (.fieldLink RX7 77 "ArcheloftModel" "thrown" "I") (by decide +kernel)) dX7_entities_2 (fun H1 locs1 hR hS => ?_)
  refine lv_iconst (v := nI 0) hx hb dX7_entities_5 (by decide) ?_
  refine lv_istore_n (lv' := [(1, .int (nI 0)), (0, .ref g)]) hx hb dX7_entities_6 rfl hl (by decide) rfl (fun ls hl => ?_)
  refine lv_iconst (v := nI 0) hx hb dX7_entities_7 (by decide) ?_
  refine lv_istore_n (lv' := [(2, .int (nI 0)), (1, .int (nI 0)), (0, .ref g)]) hx hb dX7_entities_8 rfl hl (by decide) rfl (fun ls hl => ?_)
  have loop9 : ∀ (n : Nat) (i : Nat), 32 - i < n → (i ≤ 32) → ∀ (ls : Array Slot), lv_has ls 3 [(2, .int (nI i)), (1, .int (nI (cnt (mAl (sE M)) i))), (0, .ref g)] → W p l e (rmL 0 0 0) s m args below meth c H1 locs1 (0) (0) (vx_MQ below (QI (AM g) (fun r H1 => PM D T g (oEntities M) r H1)) (XX (AM g) (XN)) args s 0 0 (AM g)) (F0 m 9 ls []) := by
    intro n
    induction n with
    | zero => intro i hfuel; exact absurd hfuel (Nat.not_lt_zero _)
    | succ n ih9 =>
      intro i hfuel hi ls hl
      refine lv_iload_n hx hb dX7_entities_9 rfl (lv_at hl 0 rfl) ?_
      refine lv_bipush (v := nI 32) hx hb dX7_entities_10 (by decide) ?_
      refine y_icmp_ge hx hb (by omega) (Nat.le_of_ble_eq_true rfl) (tgt := 38) dX7_entities_12 (by decide) (fun c12 => ?_) (fun c12 => ?_)
      · refine lv_iload_n hx hb dX7_entities_38 rfl (lv_at hl 1 rfl) ?_
        exact r_i hx hb hrt9 hlk hS (Nat.le_of_ble_eq_true rfl) (Nat.le_of_ble_eq_true rfl) dX7_entities_39 (PM.ret hR hM rfl (by rw [show i = 32 by omega]))
      · refine lv_iload_n hx hb dX7_entities_15 rfl (lv_at hl 1 rfl) ?_
        refine lv_aload_n hx hb dX7_entities_16 rfl (lv_at hl 2 rfl) ?_
        refine m_get hx hb hts in_X7_entities_RX7 hown hK hR 2 (by decide) (hts (.fieldLink RX7 7 "ArcheloftModel" "isAlive" "[Z") (by decide +kernel)) rfl (v := .ref (g + 1)) rfl dX7_entities_17 ?_
        refine lv_iload_n hx hb dX7_entities_20 rfl (lv_at hl 0 rfl) ?_
        refine m_ld1 (i := i) hx hb hK hR (by omega) dX7_entities_21 ?_
        refine x_top (y := (bI (mAl (sE M) i))) (hE.1 i (by omega)) ?_
        refine y_bif_eq hx hb (tgt := 29) dX7_entities_22 (by decide) (fun c22 => ?_) (fun c22 => ?_)
        · refine lv_iconst (v := nI 0) hx hb dX7_entities_29 (by decide) ?_
          refine y_iadd hx hb dX7_entities_30 ?_
          refine x_top (y := (nI (cnt (mAl (sE M)) (i + 1)))) (by rw [cnt_f c22]; rfl) ?_
          refine lv_istore_n (lv' := [(1, .int (nI (cnt (mAl (sE M)) (i + 1)))), (2, .int (nI i)), (0, .ref g)]) hx hb dX7_entities_31 rfl hl (by decide) rfl (fun ls hl => ?_)
          refine lv_iinc (v := (nI (i + 1))) (lv' := [(2, .int (nI (i + 1))), (1, .int (nI (cnt (mAl (sE M)) (i + 1)))), (0, .ref g)]) hx hb dX7_entities_32 hl (k := 1) rfl (nI_inc _) (by decide) rfl (fun ls hl => ?_)
          refine lv_goto (tgt := 9) hx hb dX7_entities_35 (by decide) ?_
          exact ih9 (i + 1) (by omega) (by omega) ls (lv_sub hl [0, 1, 2] rfl)
        · refine lv_iconst (v := nI 1) hx hb dX7_entities_25 (by decide) ?_
          refine lv_goto (tgt := 30) hx hb dX7_entities_26 (by decide) ?_
          refine y_iadd hx hb dX7_entities_30 ?_
          refine x_top (y := (nI (cnt (mAl (sE M)) (i + 1)))) (by rw [cnt_t c22]) ?_
          refine lv_istore_n (lv' := [(1, .int (nI (cnt (mAl (sE M)) (i + 1)))), (2, .int (nI i)), (0, .ref g)]) hx hb dX7_entities_31 rfl hl (by decide) rfl (fun ls hl => ?_)
          refine lv_iinc (v := (nI (i + 1))) (lv' := [(2, .int (nI (i + 1))), (1, .int (nI (cnt (mAl (sE M)) (i + 1)))), (0, .ref g)]) hx hb dX7_entities_32 hl (k := 1) rfl (nI_inc _) (by decide) rfl (fun ls hl => ?_)
          refine lv_goto (tgt := 9) hx hb dX7_entities_35 (by decide) ?_
          exact ih9 (i + 1) (by omega) (by omega) ls (lv_sub hl [0, 1, 2] rfl)
  exact loop9 (32 + 1) 0 (Nat.lt_succ_self _) (by omega) ls (lv_sub hl [0, 1, 2] rfl)
set_option maxRecDepth 100000 in
theorem in_X7_isThere_RX7 : ∀ w ∈ wsX70, w ∈ wsX7_isThere := by decide +kernel
set_option maxHeartbeats 4000000 in
set_option maxRecDepth 100000 in
theorem c_X7_isThere (l : Launch) {D : va_G} {T : Nat → ClassId} {dE mi : Nat} {g : Nat} {S : Nat → Int32} {Y : Nat → Nat → Int32} {H : Heap} (hR : RM D T g S Y H) {M : mSt} (hM : Rel S Y M) {b : Nat} (hI : Inv b M) (x : Int32) : vx_Met l yX7_isThere wsX7_isThere (rmL 1 0 0) (PcE D T dE mi (AM g) H [.ref g, .int x]) (QI (AM g) (fun r H1 => PM D T g (oIsThere M x) r H1)) (XX (AM g) (XN)) 0 0 (AM g) := by
  refine entry (cc := cX7_isThere) (maxL := 2) (ret := (some .boolean)) (by decide) rfl (Nat.le_of_ble_eq_true rfl) ?_
  intro p e s m args below meth c hx hb hrt9 hml hown hts hlk hnt hnm hev hS ls hl
  have hown : s.vm.findClass RX7 = some m.cls := hown
  have hK := hev.1
  have hl : lv_has ls 2 [(0, .ref g), (1, .int x)] := hl
  obtain ⟨hT, hE, hRw, hQ, hW, hY⟩ := id hM
  obtain ⟨iE, iR, iQ, iW, iY, hb9, hh⟩ := id hI
  have hb0 : b ≤ 1000000 := Nat.le_trans hb9 (by decide)
  refine lv_aload_n hx hb dX7_isThere_0 rfl (lv_at hl 0 rfl) ?_
  refine lv_iconst (v := nI 0) hx hb dX7_isThere_1 (by decide) ?_
  refine m_put0 (v := (nI 0)) hx hb hts in_X7_isThere_RX7 hown hK hS hR (hts (.fieldLink RX7 77 "ArcheloftModel" "thrown" "I") (by decide +kernel)) dX7_isThere_2 (fun H1 locs1 hR hS => ?_)
  refine lv_aload_n hx hb dX7_isThere_5 rfl (lv_at hl 0 rfl) ?_
  refine lv_iload_n hx hb dX7_isThere_6 rfl (lv_at hl 1 rfl) ?_
  refine k_ip (k_V (As := [.int x]) (rest := []) ⟨hx, hb, hml, hown, hts⟩ hev hS (c_X7_slotOf l hR hE hb0 hh (x)) (cwV 1 hts gX7_isThere_X7_slotOf rfl rfl rfl (by decide +kernel) ⟨Nat.le_of_ble_eq_true rfl, Nat.le_of_ble_eq_true rfl⟩) (x_recv hK hR.1 rfl) rfl hl.1 (Nat.le_of_ble_eq_true rfl) dX7_isThere_7 (Nat.le_of_ble_eq_true rfl) (Nat.le_of_ble_eq_true rfl)) hS hnt hlk (fun _ _ h _ => h.elim) (Nat.le_of_ble_eq_true rfl) (Nat.le_of_ble_eq_true rfl) (fun rq2_ H2 locs2 hP hz2 hS => ?_)
  refine W.widen (k := 0) (n := 0) (Nat.le_refl _) (Nat.le_refl _) ?_
  have hR : RM D T g (upd S 0 (nI 0)) Y H2 := by rw [hP.1]; exact hR
  have er := hP.2
  rcases hlk9 : look (sE M) (x) with _ | sl
  · refine x_top (y := ((-1))) (by rw [er, hlk9]; rfl) ?_
    refine lv_iconst (v := -1) hx hb dX7_isThere_10 (by decide) ?_
    refine lv_icmp_eq (tgt := 18) hx hb dX7_isThere_11 (by decide) (fun c11 => ?_) (fun c11 => ?_)
    · refine lv_iconst (v := nI 0) hx hb dX7_isThere_18 (by decide) ?_
      exact r_z hx hb hrt9 hlk hS (Nat.le_of_ble_eq_true rfl) (Nat.le_of_ble_eq_true rfl) dX7_isThere_19 rfl (PM.ret hR hM rfl (by rw [hlk9]; rfl))
    · exact absurd rfl c11
  · refine x_top (y := (nI sl)) (by rw [er, hlk9]; rfl) ?_
    obtain ⟨hs32, hsal, hsh⟩ := look_some hlk9
    refine lv_iconst (v := -1) hx hb dX7_isThere_10 (by decide) ?_
    refine lv_icmp_eq (tgt := 18) hx hb dX7_isThere_11 (by decide) (fun c11 => ?_) (fun c11 => ?_)
    · exact absurd c11 (nI_m1 (by omega))
    · refine lv_iconst (v := nI 1) hx hb dX7_isThere_14 (by decide) ?_
      refine lv_goto (tgt := 19) hx hb dX7_isThere_15 (by decide) ?_
      exact r_z hx hb hrt9 hlk hS (Nat.le_of_ble_eq_true rfl) (Nat.le_of_ble_eq_true rfl) dX7_isThere_19 rfl (PM.ret hR hM rfl (by rw [hlk9]; rfl))
set_option maxRecDepth 100000 in
theorem in_X7_children_RX7 : ∀ w ∈ wsX70, w ∈ wsX7_children := by decide +kernel
set_option maxHeartbeats 4000000 in
set_option maxRecDepth 100000 in
theorem c_X7_children (l : Launch) {D : va_G} {T : Nat → ClassId} {dE mi : Nat} {g : Nat} {S : Nat → Int32} {Y : Nat → Nat → Int32} {H : Heap} (hR : RM D T g S Y H) {M : mSt} (hM : Rel S Y M) {b : Nat} (hI : Inv b M) (x : Int32) : vx_Met l yX7_children wsX7_children (rmL 1 0 0) (PcE D T dE mi (AM g) H [.ref g, .int x]) (QI (AM g) (fun r H1 => PM D T g (oChildren M x) r H1)) (XX (AM g) (XN)) 0 0 (AM g) := by
  refine entry (cc := cX7_children) (maxL := 5) (ret := (some .int)) (by decide) rfl (Nat.le_of_ble_eq_true rfl) ?_
  intro p e s m args below meth c hx hb hrt9 hml hown hts hlk hnt hnm hev hS ls hl
  have hown : s.vm.findClass RX7 = some m.cls := hown
  have hK := hev.1
  have hl : lv_has ls 5 [(0, .ref g), (1, .int x)] := hl
  obtain ⟨hT, hE, hRw, hQ, hW, hY⟩ := id hM
  obtain ⟨iE, iR, iQ, iW, iY, hb9, hh⟩ := id hI
  have hb0 : b ≤ 1000000 := Nat.le_trans hb9 (by decide)
  refine lv_aload_n hx hb dX7_children_0 rfl (lv_at hl 0 rfl) ?_
  refine lv_iload_n hx hb dX7_children_1 rfl (lv_at hl 1 rfl) ?_
  refine k_ip (k_V (As := [.int x]) (rest := []) ⟨hx, hb, hml, hown, hts⟩ hev hS (c_X7_slotOf l hR hE hb0 hh (x)) (cwV 1 hts gX7_children_X7_slotOf rfl rfl rfl (by decide +kernel) ⟨Nat.le_of_ble_eq_true rfl, Nat.le_of_ble_eq_true rfl⟩) (x_recv hK hR.1 rfl) rfl hl.1 (Nat.le_of_ble_eq_true rfl) dX7_children_2 (Nat.le_of_ble_eq_true rfl) (Nat.le_of_ble_eq_true rfl)) hS hnt hlk (fun _ _ h _ => h.elim) (Nat.le_of_ble_eq_true rfl) (Nat.le_of_ble_eq_true rfl) (fun rq1_ H1 locs1 hP hz1 hS => ?_)
  refine W.widen (k := 0) (n := 0) (Nat.le_refl _) (Nat.le_refl _) ?_
  have hR : RM D T g S Y H1 := by rw [hP.1]; exact hR
  have er := hP.2
  rcases hlk9 : look (sE M) (x) with _ | sl
  · refine x_top (y := ((-1))) (by rw [er, hlk9]; rfl) ?_
    have ho : oChildren M x = oErr M 1 := by unfold oChildren; rw [hlk9]
    refine lv_istore_n (lv' := [(2, .int ((-1))), (0, .ref g), (1, .int x)]) hx hb dX7_children_5 rfl hl (by decide) rfl (fun ls hl => ?_)
    refine lv_aload_n hx hb dX7_children_6 rfl (lv_at hl 1 rfl) ?_
    refine lv_iload_n hx hb dX7_children_7 rfl (lv_at hl 0 rfl) ?_
    refine lv_iconst (v := -1) hx hb dX7_children_8 (by decide) ?_
    refine lv_icmp_ne (tgt := 16) hx hb dX7_children_9 (by decide) (fun c9 => ?_) (fun c9 => ?_)
    · exact absurd rfl c9
    · refine lv_iconst (v := nI 1) hx hb dX7_children_12 (by decide) ?_
      refine lv_goto (tgt := 17) hx hb dX7_children_13 (by decide) ?_
      refine m_put0 (v := (nI 1)) hx hb hts in_X7_children_RX7 hown hK hS hR (hts (.fieldLink RX7 77 "ArcheloftModel" "thrown" "I") (by decide +kernel)) dX7_children_17 (fun H2 locs2 hR hS => ?_)
      refine lv_iconst (v := nI 0) hx hb dX7_children_20 (by decide) ?_
      refine lv_istore_n (lv' := [(3, .int (nI 0)), (2, .int ((-1))), (0, .ref g), (1, .int x)]) hx hb dX7_children_21 rfl hl (by decide) rfl (fun ls hl => ?_)
      refine lv_iconst (v := nI 0) hx hb dX7_children_22 (by decide) ?_
      refine lv_istore (lv' := [(4, .int (nI 0)), (3, .int (nI 0)), (2, .int ((-1))), (0, .ref g), (1, .int x)]) hx hb dX7_children_23 hl (by decide) rfl (fun ls hl => ?_)
      refine lv_iload hx hb dX7_children_25 (lv_at hl 0 rfl) ?_
      refine lv_bipush (v := nI 32) hx hb dX7_children_27 (by decide) ?_
      refine y_icmp_ge hx hb (by decide) (by decide) (tgt := 77) dX7_children_29 (by decide) (fun c29 => ?_) (fun c29 => ?_)
      · exact absurd c29 (by decide)
      · refine lv_aload_n hx hb dX7_children_32 rfl (lv_at hl 3 rfl) ?_
        refine m_get hx hb hts in_X7_children_RX7 hown hK hR 0 (by decide) (hts (.fieldLink RX7 77 "ArcheloftModel" "thrown" "I") (by decide +kernel)) rfl (v := .int (nI 1)) rfl dX7_children_33 ?_
        refine y_if_ne hx hb (by decide) (tgt := 77) dX7_children_36 (by decide) (fun c36 => ?_) (fun c36 => ?_)
        · refine lv_iload_n hx hb dX7_children_77 rfl (lv_at hl 1 rfl) ?_
          exact r_i hx hb hrt9 hlk hS (Nat.le_of_ble_eq_true rfl) (Nat.le_of_ble_eq_true rfl) dX7_children_78 (by rw [ho]; exact PM.err (by decide) hR hM rfl)
        · exact absurd c36 (by decide)
  · refine x_top (y := (nI sl)) (by rw [er, hlk9]; rfl) ?_
    obtain ⟨hs32, hsal, hsh⟩ := look_some hlk9
    have ho : oChildren M x = oRet M (chl (sE M) sl 32) := by unfold oChildren; rw [hlk9]
    refine lv_istore_n (lv' := [(2, .int (nI sl)), (0, .ref g), (1, .int x)]) hx hb dX7_children_5 rfl hl (by decide) rfl (fun ls hl => ?_)
    refine lv_aload_n hx hb dX7_children_6 rfl (lv_at hl 1 rfl) ?_
    refine lv_iload_n hx hb dX7_children_7 rfl (lv_at hl 0 rfl) ?_
    refine lv_iconst (v := -1) hx hb dX7_children_8 (by decide) ?_
    refine lv_icmp_ne (tgt := 16) hx hb dX7_children_9 (by decide) (fun c9 => ?_) (fun c9 => ?_)
    · refine lv_iconst (v := nI 0) hx hb dX7_children_16 (by decide) ?_
      refine m_put0 (v := (nI 0)) hx hb hts in_X7_children_RX7 hown hK hS hR (hts (.fieldLink RX7 77 "ArcheloftModel" "thrown" "I") (by decide +kernel)) dX7_children_17 (fun H3 locs3 hR hS => ?_)
      refine lv_iconst (v := nI 0) hx hb dX7_children_20 (by decide) ?_
      refine lv_istore_n (lv' := [(3, .int (nI 0)), (2, .int (nI sl)), (0, .ref g), (1, .int x)]) hx hb dX7_children_21 rfl hl (by decide) rfl (fun ls hl => ?_)
      refine lv_iconst (v := nI 0) hx hb dX7_children_22 (by decide) ?_
      refine lv_istore (lv' := [(4, .int (nI 0)), (3, .int (nI 0)), (2, .int (nI sl)), (0, .ref g), (1, .int x)]) hx hb dX7_children_23 hl (by decide) rfl (fun ls hl => ?_)
      have loop25 : ∀ (n : Nat) (i : Nat), 32 - i < n → (i ≤ 32) → ∀ (ls : Array Slot), lv_has ls 5 [(4, .int (nI i)), (3, .int ((chl (sE M) sl i))), (2, .int (nI sl)), (0, .ref g), (1, .int x)] → W p l e (rmL 1 0 0) s m args below meth c H3 locs3 (0) (0) (vx_MQ below (QI (AM g) (fun r H1 => PM D T g (oChildren M x) r H1)) (XX (AM g) (XN)) args s 0 0 (AM g)) (F0 m 25 ls []) := by
        intro n
        induction n with
        | zero => intro i hfuel; exact absurd hfuel (Nat.not_lt_zero _)
        | succ n ih25 =>
          intro i hfuel hi ls hl
          refine lv_iload hx hb dX7_children_25 (lv_at hl 0 rfl) ?_
          refine lv_bipush (v := nI 32) hx hb dX7_children_27 (by decide) ?_
          refine y_icmp_ge hx hb (by omega) (Nat.le_of_ble_eq_true rfl) (tgt := 77) dX7_children_29 (by decide) (fun c29 => ?_) (fun c29 => ?_)
          · refine lv_iload_n hx hb dX7_children_77 rfl (lv_at hl 1 rfl) ?_
            exact r_i hx hb hrt9 hlk hS (Nat.le_of_ble_eq_true rfl) (Nat.le_of_ble_eq_true rfl) dX7_children_78 (by rw [ho]; exact PM.ret hR hM rfl (by rw [show i = 32 by omega]))
          · refine lv_aload_n hx hb dX7_children_32 rfl (lv_at hl 3 rfl) ?_
            refine m_get hx hb hts in_X7_children_RX7 hown hK hR 0 (by decide) (hts (.fieldLink RX7 77 "ArcheloftModel" "thrown" "I") (by decide +kernel)) rfl (v := .int (nI 0)) rfl dX7_children_33 ?_
            refine y_if_ne hx hb (by decide) (tgt := 77) dX7_children_36 (by decide) (fun c36 => ?_) (fun c36 => ?_)
            · exact absurd c36 (by decide)
            · refine lv_iload_n hx hb dX7_children_39 rfl (lv_at hl 1 rfl) ?_
              refine lv_aload_n hx hb dX7_children_40 rfl (lv_at hl 3 rfl) ?_
              refine m_get hx hb hts in_X7_children_RX7 hown hK hR 2 (by decide) (hts (.fieldLink RX7 7 "ArcheloftModel" "isAlive" "[Z") (by decide +kernel)) rfl (v := .ref (g + 1)) rfl dX7_children_41 ?_
              refine lv_iload hx hb dX7_children_44 (lv_at hl 0 rfl) ?_
              refine m_ld1 (i := i) hx hb hK hR (by omega) dX7_children_46 ?_
              refine x_top (y := (bI (mAl (sE M) i))) (hE.1 i (by omega)) ?_
              refine y_bif_eq hx hb (tgt := 68) dX7_children_47 (by decide) (fun c47 => ?_) (fun c47 => ?_)
              · refine lv_iconst (v := nI 0) hx hb dX7_children_68 (by decide) ?_
                refine lv_ior hx hb dX7_children_69 ?_
                refine x_top (y := ((chl (sE M) sl (i + 1)))) (by rw [or0, chl_f (fun z => by rw [par_al iE z] at c47; cases c47)]) ?_
                refine lv_istore_n (lv' := [(3, .int ((chl (sE M) sl (i + 1)))), (4, .int (nI i)), (2, .int (nI sl)), (0, .ref g), (1, .int x)]) hx hb dX7_children_70 rfl hl (by decide) rfl (fun ls hl => ?_)
                refine lv_iinc (v := (nI (i + 1))) (lv' := [(4, .int (nI (i + 1))), (3, .int ((chl (sE M) sl (i + 1)))), (2, .int (nI sl)), (0, .ref g), (1, .int x)]) hx hb dX7_children_71 hl (k := 1) rfl (nI_inc _) (by decide) rfl (fun ls hl => ?_)
                refine lv_goto (tgt := 25) hx hb dX7_children_74 (by decide) ?_
                exact ih25 (i + 1) (by omega) (by omega) ls (lv_sub hl [0, 1, 2, 3, 4] rfl)
              · refine lv_aload_n hx hb dX7_children_50 rfl (lv_at hl 3 rfl) ?_
                refine m_get hx hb hts in_X7_children_RX7 hown hK hR 5 (by decide) (hts (.fieldLink RX7 20 "ArcheloftModel" "parent" "[I") (by decide +kernel)) rfl (v := .ref (g + 4)) rfl dX7_children_51 ?_
                refine lv_iload hx hb dX7_children_54 (lv_at hl 0 rfl) ?_
                refine m_ld4 (i := i) hx hb hK hR (by omega) dX7_children_56 ?_
                refine x_top (y := ((nO (mPar (sE M) i)))) (hE.2.2.2.1 i (by omega) c47) ?_
                refine lv_iload_n hx hb dX7_children_57 rfl (lv_at hl 2 rfl) ?_
                refine lv_icmp_ne (tgt := 68) hx hb dX7_children_58 (by decide) (fun c58 => ?_) (fun c58 => ?_)
                · refine lv_iconst (v := nI 0) hx hb dX7_children_68 (by decide) ?_
                  refine lv_ior hx hb dX7_children_69 ?_
                  refine x_top (y := ((chl (sE M) sl (i + 1)))) (by rw [or0, chl_f (fun z => c58 (by rw [z]; rfl))]) ?_
                  refine lv_istore_n (lv' := [(3, .int ((chl (sE M) sl (i + 1)))), (4, .int (nI i)), (2, .int (nI sl)), (0, .ref g), (1, .int x)]) hx hb dX7_children_70 rfl hl (by decide) rfl (fun ls hl => ?_)
                  refine lv_iinc (v := (nI (i + 1))) (lv' := [(4, .int (nI (i + 1))), (3, .int ((chl (sE M) sl (i + 1)))), (2, .int (nI sl)), (0, .ref g), (1, .int x)]) hx hb dX7_children_71 hl (k := 1) rfl (nI_inc _) (by decide) rfl (fun ls hl => ?_)
                  refine lv_goto (tgt := 25) hx hb dX7_children_74 (by decide) ?_
                  exact ih25 (i + 1) (by omega) (by omega) ls (lv_sub hl [0, 1, 2, 3, 4] rfl)
                · refine lv_iconst (v := nI 1) hx hb dX7_children_61 (by decide) ?_
                  refine lv_iload hx hb dX7_children_62 (lv_at hl 0 rfl) ?_
                  refine lv_ishl hx hb dX7_children_64 ?_
                  refine lv_goto (tgt := 69) hx hb dX7_children_65 (by decide) ?_
                  refine lv_ior hx hb dX7_children_69 ?_
                  refine x_top (y := ((chl (sE M) sl (i + 1)))) (by rw [chl_t (par_eq iE hs32 c58)]) ?_
                  refine lv_istore_n (lv' := [(3, .int ((chl (sE M) sl (i + 1)))), (4, .int (nI i)), (2, .int (nI sl)), (0, .ref g), (1, .int x)]) hx hb dX7_children_70 rfl hl (by decide) rfl (fun ls hl => ?_)
                  refine lv_iinc (v := (nI (i + 1))) (lv' := [(4, .int (nI (i + 1))), (3, .int ((chl (sE M) sl (i + 1)))), (2, .int (nI sl)), (0, .ref g), (1, .int x)]) hx hb dX7_children_71 hl (k := 1) rfl (nI_inc _) (by decide) rfl (fun ls hl => ?_)
                  refine lv_goto (tgt := 25) hx hb dX7_children_74 (by decide) ?_
                  exact ih25 (i + 1) (by omega) (by omega) ls (lv_sub hl [0, 1, 2, 3, 4] rfl)
      exact loop25 (32 + 1) 0 (Nat.lt_succ_self _) (by omega) ls (lv_sub hl [0, 1, 2, 3, 4] rfl)
    · exact absurd c9 (nI_m1 (by omega))
set_option maxRecDepth 100000 in
theorem in_X7_asks_RX7 : ∀ w ∈ wsX70, w ∈ wsX7_asks := by decide +kernel
set_option maxHeartbeats 4000000 in
set_option maxRecDepth 100000 in
theorem c_X7_asks (l : Launch) {D : va_G} {T : Nat → ClassId} {dE mi : Nat} {g : Nat} {S : Nat → Int32} {Y : Nat → Nat → Int32} {H : Heap} (hR : RM D T g S Y H) {M : mSt} (hM : Rel S Y M) {b : Nat} (hI : Inv b M) (x kd : Int32) : vx_Met l yX7_asks wsX7_asks (rmL 1 0 0) (PcE D T dE mi (AM g) H [.ref g, .int x, .int kd]) (QI (AM g) (fun r H1 => ∃ cd5_ sl k, ask M x kd = (cd5_, sl, k) ∧ cd5_ ≤ 3 ∧ RM D T g (upd S 0 (nI cd5_)) Y H1 ∧ (cd5_ = 0 → r = nI (6 * sl + k) ∧ sl < 32 ∧ k < 6 ∧ mAl (sE M) sl = true ∧ look (sE M) x = some sl ∧ kd = nI k ∧ bitS (mKd (sE M) sl) k = true))) (XX (AM g) (XN)) 0 0 (AM g) := by
  refine entry (cc := cX7_asks) (maxL := 4) (ret := (some .int)) (by decide) rfl (Nat.le_of_ble_eq_true rfl) ?_
  intro p e s m args below meth c hx hb hrt9 hml hown hts hlk hnt hnm hev hS ls hl
  have hown : s.vm.findClass RX7 = some m.cls := hown
  have hK := hev.1
  have hl : lv_has ls 4 [(0, .ref g), (1, .int x), (2, .int kd)] := hl
  obtain ⟨hT, hE, hRw, hQ, hW, hY⟩ := id hM
  obtain ⟨iE, iR, iQ, iW, iY, hb9, hh⟩ := id hI
  have hb0 : b ≤ 1000000 := Nat.le_trans hb9 (by decide)
  refine lv_aload_n hx hb dX7_asks_0 rfl (lv_at hl 0 rfl) ?_
  refine lv_iload_n hx hb dX7_asks_1 rfl (lv_at hl 1 rfl) ?_
  refine k_ip (k_V (As := [.int x]) (rest := []) ⟨hx, hb, hml, hown, hts⟩ hev hS (c_X7_slotOf l hR hE hb0 hh (x)) (cwV 1 hts gX7_asks_X7_slotOf rfl rfl rfl (by decide +kernel) ⟨Nat.le_of_ble_eq_true rfl, Nat.le_of_ble_eq_true rfl⟩) (x_recv hK hR.1 rfl) rfl hl.1 (Nat.le_of_ble_eq_true rfl) dX7_asks_2 (Nat.le_of_ble_eq_true rfl) (Nat.le_of_ble_eq_true rfl)) hS hnt hlk (fun _ _ h _ => h.elim) (Nat.le_of_ble_eq_true rfl) (Nat.le_of_ble_eq_true rfl) (fun rq1_ H1 locs1 hP hz1 hS => ?_)
  refine W.widen (k := 0) (n := 0) (Nat.le_refl _) (Nat.le_refl _) ?_
  have hR : RM D T g S Y H1 := by rw [hP.1]; exact hR
  have er := hP.2
  rcases hlk9 : look (sE M) (x) with _ | sl
  · refine x_top (y := ((-1))) (by rw [er, hlk9]; rfl) ?_
    have ho : ask M x kd = (1, 0, 0) := ask_1 hlk9
    refine lv_istore_n (lv' := [(3, .int ((-1))), (0, .ref g), (1, .int x), (2, .int kd)]) hx hb dX7_asks_5 rfl hl (by decide) rfl (fun ls hl => ?_)
    refine lv_aload_n hx hb dX7_asks_6 rfl (lv_at hl 1 rfl) ?_
    refine lv_iload_n hx hb dX7_asks_7 rfl (lv_at hl 0 rfl) ?_
    refine lv_iconst (v := -1) hx hb dX7_asks_8 (by decide) ?_
    refine lv_icmp_ne (tgt := 16) hx hb dX7_asks_9 (by decide) (fun c9 => ?_) (fun c9 => ?_)
    · exact absurd rfl c9
    · refine lv_iconst (v := nI 1) hx hb dX7_asks_12 (by decide) ?_
      refine lv_goto (tgt := 41) hx hb dX7_asks_13 (by decide) ?_
      refine m_put0 (v := (nI 1)) hx hb hts in_X7_asks_RX7 hown hK hS hR (hts (.fieldLink RX7 77 "ArcheloftModel" "thrown" "I") (by decide +kernel)) dX7_asks_41 (fun H2 locs2 hR hS => ?_)
      refine lv_aload_n hx hb dX7_asks_44 rfl (lv_at hl 1 rfl) ?_
      refine m_get hx hb hts in_X7_asks_RX7 hown hK hR 0 (by decide) (hts (.fieldLink RX7 77 "ArcheloftModel" "thrown" "I") (by decide +kernel)) rfl (v := .int (nI 1)) rfl dX7_asks_45 ?_
      refine y_if_le hx hb (by decide) (tgt := 55) dX7_asks_48 (by decide) (fun c48 => ?_) (fun c48 => ?_)
      · exact absurd c48 (by decide)
      · refine lv_iconst (v := nI 0) hx hb dX7_asks_51 (by decide) ?_
        refine lv_goto (tgt := 61) hx hb dX7_asks_52 (by decide) ?_
        exact r_i hx hb hrt9 hlk hS (Nat.le_of_ble_eq_true rfl) (Nat.le_of_ble_eq_true rfl) dX7_asks_61 (⟨_, _, _, ho, by decide, hR, fun z => absurd z (by decide)⟩)
  · refine x_top (y := (nI sl)) (by rw [er, hlk9]; rfl) ?_
    obtain ⟨hs32, hsal, hsh⟩ := look_some hlk9
    refine lv_istore_n (lv' := [(3, .int (nI sl)), (0, .ref g), (1, .int x), (2, .int kd)]) hx hb dX7_asks_5 rfl hl (by decide) rfl (fun ls hl => ?_)
    refine lv_aload_n hx hb dX7_asks_6 rfl (lv_at hl 1 rfl) ?_
    refine lv_iload_n hx hb dX7_asks_7 rfl (lv_at hl 0 rfl) ?_
    refine lv_iconst (v := -1) hx hb dX7_asks_8 (by decide) ?_
    refine lv_icmp_ne (tgt := 16) hx hb dX7_asks_9 (by decide) (fun c9 => ?_) (fun c9 => ?_)
    · refine lv_iload_n hx hb dX7_asks_16 rfl (lv_at hl 3 rfl) ?_
      refine k_ip (k_S (As := [.int kd]) (rest := [.ref g]) ⟨hx, hb, hml, hown, hts⟩ hev hS (c_X7_isKind l (A := AM g) (H := H1) (kd)) (va_cwS 1 hts gX7_asks_X7_isKind rfl rfl rfl (by decide +kernel) ⟨Nat.le_of_ble_eq_true rfl, Nat.le_of_ble_eq_true rfl⟩) rfl hl.1 (Nat.le_of_ble_eq_true rfl) dX7_asks_17 (Nat.le_of_ble_eq_true rfl) (Nat.le_of_ble_eq_true rfl)) hS hnt hlk (fun _ _ h _ => h.elim) (Nat.le_of_ble_eq_true rfl) (Nat.le_of_ble_eq_true rfl) (fun rq3_ H3 locs3 hP hz3 hS => ?_)
      refine W.widen (k := 0) (n := 0) (Nat.le_refl _) (Nat.le_refl _) ?_
      have hR : RM D T g S Y H3 := by rw [hP.1]; exact hR
      have er2 := hP.2
      refine x_top (y := (bI (isK kd))) (er2) ?_
      refine y_bif_ne hx hb (tgt := 27) dX7_asks_20 (by decide) (fun c20 => ?_) (fun c20 => ?_)
      · obtain ⟨i, hi6, rfl⟩ := isK_of c20
        have hl : lv_has ls 4 [(3, .int (nI sl)), (0, .ref g), (1, .int x), (2, .int (nI i))] := hl
        refine lv_aload_n hx hb dX7_asks_27 rfl (lv_at hl 1 rfl) ?_
        refine lv_iload_n hx hb dX7_asks_28 rfl (lv_at hl 0 rfl) ?_
        refine lv_iload_n hx hb dX7_asks_29 rfl (lv_at hl 3 rfl) ?_
        refine k_ip (k_V (As := [.int (nI sl), .int (nI i)]) (rest := [.ref g]) ⟨hx, hb, hml, hown, hts⟩ hev hS (c_X7_has l hR hs32) (cwV 2 hts gX7_asks_X7_has rfl rfl rfl (by decide +kernel) ⟨Nat.le_of_ble_eq_true rfl, Nat.le_of_ble_eq_true rfl⟩) (x_recv hK hR.1 rfl) rfl hl.1 (Nat.le_of_ble_eq_true rfl) dX7_asks_30 (Nat.le_of_ble_eq_true rfl) (Nat.le_of_ble_eq_true rfl)) hS hnt hlk (fun _ _ h _ => h.elim) (Nat.le_of_ble_eq_true rfl) (Nat.le_of_ble_eq_true rfl) (fun rq4_ H4 locs4 hP hz4 hS => ?_)
        refine W.widen (k := 0) (n := 0) (Nat.le_refl _) (Nat.le_refl _) ?_
        have hR : RM D T g S Y H4 := by rw [hP.1]; exact hR
        have er3 := hP.2
        refine x_top (y := (bI (bitS (mKd (sE M) sl) i))) (by rw [er3, hE.2.2.1 sl hs32 hsal, hasR_nI (iE.1 sl) hi6]) ?_
        refine y_bif_ne hx hb (tgt := 40) dX7_asks_33 (by decide) (fun c33 => ?_) (fun c33 => ?_)
        · have ho := ask_0 hlk9 hi6 c20 c33
          refine lv_iconst (v := nI 0) hx hb dX7_asks_40 (by decide) ?_
          refine m_put0 (v := (nI 0)) hx hb hts in_X7_asks_RX7 hown hK hS hR (hts (.fieldLink RX7 77 "ArcheloftModel" "thrown" "I") (by decide +kernel)) dX7_asks_41 (fun H5 locs5 hR hS => ?_)
          refine lv_aload_n hx hb dX7_asks_44 rfl (lv_at hl 1 rfl) ?_
          refine m_get hx hb hts in_X7_asks_RX7 hown hK hR 0 (by decide) (hts (.fieldLink RX7 77 "ArcheloftModel" "thrown" "I") (by decide +kernel)) rfl (v := .int (nI 0)) rfl dX7_asks_45 ?_
          refine y_if_le hx hb (by decide) (tgt := 55) dX7_asks_48 (by decide) (fun c48 => ?_) (fun c48 => ?_)
          · refine lv_bipush (v := nI 6) hx hb dX7_asks_55 (by decide) ?_
            refine lv_iload_n hx hb dX7_asks_57 rfl (lv_at hl 0 rfl) ?_
            refine y_imul hx hb dX7_asks_58 ?_
            refine lv_iload_n hx hb dX7_asks_59 rfl (lv_at hl 3 rfl) ?_
            refine y_iadd hx hb dX7_asks_60 ?_
            exact r_i hx hb hrt9 hlk hS (Nat.le_of_ble_eq_true rfl) (Nat.le_of_ble_eq_true rfl) dX7_asks_61 (⟨_, _, _, ho, by decide, hR, fun _ => ⟨rfl, hs32, hi6, hsal, (by first | exact hlk9 | rfl), rfl, c33⟩⟩)
          · exact absurd c48 (by decide)
        · have ho := ask_3 hlk9 hi6 c20 c33
          refine lv_iconst (v := nI 3) hx hb dX7_asks_36 (by decide) ?_
          refine lv_goto (tgt := 41) hx hb dX7_asks_37 (by decide) ?_
          refine m_put0 (v := (nI 3)) hx hb hts in_X7_asks_RX7 hown hK hS hR (hts (.fieldLink RX7 77 "ArcheloftModel" "thrown" "I") (by decide +kernel)) dX7_asks_41 (fun H6 locs6 hR hS => ?_)
          refine lv_aload_n hx hb dX7_asks_44 rfl (lv_at hl 1 rfl) ?_
          refine m_get hx hb hts in_X7_asks_RX7 hown hK hR 0 (by decide) (hts (.fieldLink RX7 77 "ArcheloftModel" "thrown" "I") (by decide +kernel)) rfl (v := .int (nI 3)) rfl dX7_asks_45 ?_
          refine y_if_le hx hb (by decide) (tgt := 55) dX7_asks_48 (by decide) (fun c48 => ?_) (fun c48 => ?_)
          · exact absurd c48 (by decide)
          · refine lv_iconst (v := nI 0) hx hb dX7_asks_51 (by decide) ?_
            refine lv_goto (tgt := 61) hx hb dX7_asks_52 (by decide) ?_
            exact r_i hx hb hrt9 hlk hS (Nat.le_of_ble_eq_true rfl) (Nat.le_of_ble_eq_true rfl) dX7_asks_61 (⟨_, _, _, ho, by decide, hR, fun z => absurd z (by decide)⟩)
      · have ho : ask M x kd = (2, 0, 0) := ask_2 hlk9 c20
        refine lv_iconst (v := nI 2) hx hb dX7_asks_23 (by decide) ?_
        refine lv_goto (tgt := 41) hx hb dX7_asks_24 (by decide) ?_
        refine m_put0 (v := (nI 2)) hx hb hts in_X7_asks_RX7 hown hK hS hR (hts (.fieldLink RX7 77 "ArcheloftModel" "thrown" "I") (by decide +kernel)) dX7_asks_41 (fun H7 locs7 hR hS => ?_)
        refine lv_aload_n hx hb dX7_asks_44 rfl (lv_at hl 1 rfl) ?_
        refine m_get hx hb hts in_X7_asks_RX7 hown hK hR 0 (by decide) (hts (.fieldLink RX7 77 "ArcheloftModel" "thrown" "I") (by decide +kernel)) rfl (v := .int (nI 2)) rfl dX7_asks_45 ?_
        refine y_if_le hx hb (by decide) (tgt := 55) dX7_asks_48 (by decide) (fun c48 => ?_) (fun c48 => ?_)
        · exact absurd c48 (by decide)
        · refine lv_iconst (v := nI 0) hx hb dX7_asks_51 (by decide) ?_
          refine lv_goto (tgt := 61) hx hb dX7_asks_52 (by decide) ?_
          exact r_i hx hb hrt9 hlk hS (Nat.le_of_ble_eq_true rfl) (Nat.le_of_ble_eq_true rfl) dX7_asks_61 (⟨_, _, _, ho, by decide, hR, fun z => absurd z (by decide)⟩)
    · exact absurd c9 (nI_m1 (by omega))
set_option maxRecDepth 100000 in
theorem in_X7_whyNotAdd_RX7 : ∀ w ∈ wsX70, w ∈ wsX7_whyNotAdd := by decide +kernel
set_option maxHeartbeats 4000000 in
set_option maxRecDepth 100000 in
theorem c_X7_whyNotAdd (l : Launch) {D : va_G} {T : Nat → ClassId} {dE mi : Nat} {g : Nat} {S : Nat → Int32} {Y : Nat → Nat → Int32} {H : Heap} (hR : RM D T g S Y H) {M : mSt} (hM : Rel S Y M) {b : Nat} (hI : Inv b M) (x kd : Int32) : vx_Met l yX7_whyNotAdd wsX7_whyNotAdd (rmL 1 0 0) (PcE D T dE mi (AM g) H [.ref g, .int x, .int kd]) (QI (AM g) (fun r H1 => ∃ cd5_, r = nI cd5_ ∧ cd5_ ≤ 3 ∧ RM D T g S Y H1 ∧ (cd5_ ≠ 0 → ∀ v, oAdd M x kd v = oErr M cd5_) ∧ (cd5_ = 0 → ∃ sl k, look (sE M) x = some sl ∧ kd = nI k ∧ k < 6 ∧ isK (nI k) = true ∧ bitS (mKd (sE M) sl) k = false ∧ wOn (sW M) = false))) (XX (AM g) (XN)) 0 0 (AM g) := by
  refine entry (cc := cX7_whyNotAdd) (maxL := 4) (ret := (some .int)) (by decide) rfl (Nat.le_of_ble_eq_true rfl) ?_
  intro p e s m args below meth c hx hb hrt9 hml hown hts hlk hnt hnm hev hS ls hl
  have hown : s.vm.findClass RX7 = some m.cls := hown
  have hK := hev.1
  have hl : lv_has ls 4 [(0, .ref g), (1, .int x), (2, .int kd)] := hl
  obtain ⟨hT, hE, hRw, hQ, hW, hY⟩ := id hM
  obtain ⟨iE, iR, iQ, iW, iY, hb9, hh⟩ := id hI
  have hb0 : b ≤ 1000000 := Nat.le_trans hb9 (by decide)
  refine lv_aload_n hx hb dX7_whyNotAdd_0 rfl (lv_at hl 0 rfl) ?_
  refine lv_iload_n hx hb dX7_whyNotAdd_1 rfl (lv_at hl 1 rfl) ?_
  refine k_ip (k_V (As := [.int x]) (rest := []) ⟨hx, hb, hml, hown, hts⟩ hev hS (c_X7_slotOf l hR hE hb0 hh (x)) (cwV 1 hts gX7_whyNotAdd_X7_slotOf rfl rfl rfl (by decide +kernel) ⟨Nat.le_of_ble_eq_true rfl, Nat.le_of_ble_eq_true rfl⟩) (x_recv hK hR.1 rfl) rfl hl.1 (Nat.le_of_ble_eq_true rfl) dX7_whyNotAdd_2 (Nat.le_of_ble_eq_true rfl) (Nat.le_of_ble_eq_true rfl)) hS hnt hlk (fun _ _ h _ => h.elim) (Nat.le_of_ble_eq_true rfl) (Nat.le_of_ble_eq_true rfl) (fun rq1_ H1 locs1 hP hz1 hS => ?_)
  refine W.widen (k := 0) (n := 0) (Nat.le_refl _) (Nat.le_refl _) ?_
  have hR : RM D T g S Y H1 := by rw [hP.1]; exact hR
  have er := hP.2
  rcases hlk9 : look (sE M) (x) with _ | sl
  · refine x_top (y := ((-1))) (by rw [er, hlk9]; rfl) ?_
    have ho : ∀ v, oAdd M x kd v = oErr M 1 := fun v => oAdd_1 hlk9
    refine lv_istore_n (lv' := [(3, .int ((-1))), (0, .ref g), (1, .int x), (2, .int kd)]) hx hb dX7_whyNotAdd_5 rfl hl (by decide) rfl (fun ls hl => ?_)
    refine lv_iload_n hx hb dX7_whyNotAdd_6 rfl (lv_at hl 0 rfl) ?_
    refine lv_iconst (v := -1) hx hb dX7_whyNotAdd_7 (by decide) ?_
    refine lv_icmp_ne (tgt := 15) hx hb dX7_whyNotAdd_8 (by decide) (fun c8 => ?_) (fun c8 => ?_)
    · exact absurd rfl c8
    · refine lv_iconst (v := nI 1) hx hb dX7_whyNotAdd_11 (by decide) ?_
      refine lv_goto (tgt := 47) hx hb dX7_whyNotAdd_12 (by decide) ?_
      exact r_i hx hb hrt9 hlk hS (Nat.le_of_ble_eq_true rfl) (Nat.le_of_ble_eq_true rfl) dX7_whyNotAdd_47 (⟨_, rfl, by decide, hR, fun _ => ho, fun z => absurd z (by decide)⟩)
  · refine x_top (y := (nI sl)) (by rw [er, hlk9]; rfl) ?_
    obtain ⟨hs32, hsal, hsh⟩ := look_some hlk9
    refine lv_istore_n (lv' := [(3, .int (nI sl)), (0, .ref g), (1, .int x), (2, .int kd)]) hx hb dX7_whyNotAdd_5 rfl hl (by decide) rfl (fun ls hl => ?_)
    refine lv_iload_n hx hb dX7_whyNotAdd_6 rfl (lv_at hl 0 rfl) ?_
    refine lv_iconst (v := -1) hx hb dX7_whyNotAdd_7 (by decide) ?_
    refine lv_icmp_ne (tgt := 15) hx hb dX7_whyNotAdd_8 (by decide) (fun c8 => ?_) (fun c8 => ?_)
    · refine lv_iload_n hx hb dX7_whyNotAdd_15 rfl (lv_at hl 3 rfl) ?_
      refine k_ip (k_S (As := [.int kd]) (rest := []) ⟨hx, hb, hml, hown, hts⟩ hev hS (c_X7_isKind l (A := AM g) (H := H1) (kd)) (va_cwS 1 hts gX7_whyNotAdd_X7_isKind rfl rfl rfl (by decide +kernel) ⟨Nat.le_of_ble_eq_true rfl, Nat.le_of_ble_eq_true rfl⟩) rfl hl.1 (Nat.le_of_ble_eq_true rfl) dX7_whyNotAdd_16 (Nat.le_of_ble_eq_true rfl) (Nat.le_of_ble_eq_true rfl)) hS hnt hlk (fun _ _ h _ => h.elim) (Nat.le_of_ble_eq_true rfl) (Nat.le_of_ble_eq_true rfl) (fun rq2_ H2 locs2 hP hz2 hS => ?_)
      refine W.widen (k := 0) (n := 0) (Nat.le_refl _) (Nat.le_refl _) ?_
      have hR : RM D T g S Y H2 := by rw [hP.1]; exact hR
      have er2 := hP.2
      refine x_top (y := (bI (isK kd))) (er2) ?_
      refine y_bif_ne hx hb (tgt := 26) dX7_whyNotAdd_19 (by decide) (fun c19 => ?_) (fun c19 => ?_)
      · obtain ⟨i, hi6, rfl⟩ := isK_of c19
        have hl : lv_has ls 4 [(3, .int (nI sl)), (0, .ref g), (1, .int x), (2, .int (nI i))] := hl
        refine lv_aload_n hx hb dX7_whyNotAdd_26 rfl (lv_at hl 1 rfl) ?_
        refine lv_iload_n hx hb dX7_whyNotAdd_27 rfl (lv_at hl 0 rfl) ?_
        refine lv_iload_n hx hb dX7_whyNotAdd_28 rfl (lv_at hl 3 rfl) ?_
        refine k_ip (k_V (As := [.int (nI sl), .int (nI i)]) (rest := []) ⟨hx, hb, hml, hown, hts⟩ hev hS (c_X7_has l hR hs32) (cwV 2 hts gX7_whyNotAdd_X7_has rfl rfl rfl (by decide +kernel) ⟨Nat.le_of_ble_eq_true rfl, Nat.le_of_ble_eq_true rfl⟩) (x_recv hK hR.1 rfl) rfl hl.1 (Nat.le_of_ble_eq_true rfl) dX7_whyNotAdd_29 (Nat.le_of_ble_eq_true rfl) (Nat.le_of_ble_eq_true rfl)) hS hnt hlk (fun _ _ h _ => h.elim) (Nat.le_of_ble_eq_true rfl) (Nat.le_of_ble_eq_true rfl) (fun rq3_ H3 locs3 hP hz3 hS => ?_)
        refine W.widen (k := 0) (n := 0) (Nat.le_refl _) (Nat.le_refl _) ?_
        have hR : RM D T g S Y H3 := by rw [hP.1]; exact hR
        have er3 := hP.2
        refine x_top (y := (bI (bitS (mKd (sE M) sl) i))) (by rw [er3, hE.2.2.1 sl hs32 hsal, hasR_nI (iE.1 sl) hi6]) ?_
        refine y_bif_ne hx hb (tgt := 42) dX7_whyNotAdd_32 (by decide) (fun c32 => ?_) (fun c32 => ?_)
        · have ho : ∀ v, oAdd M x (nI i) v = oErr M 3 := fun v => oAdd_3 hlk9 hi6 c19 (Or.inl c32)
          refine lv_iconst (v := nI 3) hx hb dX7_whyNotAdd_42 (by decide) ?_
          refine lv_goto (tgt := 47) hx hb dX7_whyNotAdd_43 (by decide) ?_
          exact r_i hx hb hrt9 hlk hS (Nat.le_of_ble_eq_true rfl) (Nat.le_of_ble_eq_true rfl) dX7_whyNotAdd_47 (⟨_, rfl, by decide, hR, fun _ => ho, fun z => absurd z (by decide)⟩)
        · refine lv_aload_n hx hb dX7_whyNotAdd_35 rfl (lv_at hl 1 rfl) ?_
          refine m_get hx hb hts in_X7_whyNotAdd_RX7 hown hK hR 17 (by decide) (hts (.fieldLink RX7 102 "ArcheloftModel" "isWalking" "Z") (by decide +kernel)) rfl (v := .int (S 17)) rfl dX7_whyNotAdd_36 ?_
          refine x_top (y := (bI (wOn (sW M)))) (hW.1) ?_
          refine y_bif_eq hx hb (tgt := 46) dX7_whyNotAdd_39 (by decide) (fun c39 => ?_) (fun c39 => ?_)
          · refine lv_iconst (v := nI 0) hx hb dX7_whyNotAdd_46 (by decide) ?_
            exact r_i hx hb hrt9 hlk hS (Nat.le_of_ble_eq_true rfl) (Nat.le_of_ble_eq_true rfl) dX7_whyNotAdd_47 (⟨_, rfl, by decide, hR, fun z => absurd rfl z, fun _ => ⟨sl, i, (by first | exact hlk9 | rfl), rfl, hi6, c19, c32, c39⟩⟩)
          · have ho : ∀ v, oAdd M x (nI i) v = oErr M 3 := fun v => oAdd_3 hlk9 hi6 c19 (Or.inr c39)
            refine lv_iconst (v := nI 3) hx hb dX7_whyNotAdd_42 (by decide) ?_
            refine lv_goto (tgt := 47) hx hb dX7_whyNotAdd_43 (by decide) ?_
            exact r_i hx hb hrt9 hlk hS (Nat.le_of_ble_eq_true rfl) (Nat.le_of_ble_eq_true rfl) dX7_whyNotAdd_47 (⟨_, rfl, by decide, hR, fun _ => ho, fun z => absurd z (by decide)⟩)
      · have ho : ∀ v, oAdd M x kd v = oErr M 2 := fun v => oAdd_2 hlk9 c19
        refine lv_iconst (v := nI 2) hx hb dX7_whyNotAdd_22 (by decide) ?_
        refine lv_goto (tgt := 47) hx hb dX7_whyNotAdd_23 (by decide) ?_
        exact r_i hx hb hrt9 hlk hS (Nat.le_of_ble_eq_true rfl) (Nat.le_of_ble_eq_true rfl) dX7_whyNotAdd_47 (⟨_, rfl, by decide, hR, fun _ => ho, fun z => absurd z (by decide)⟩)
    · exact absurd c8 (nI_m1 (by omega))
set_option maxRecDepth 100000 in
theorem in_X7_add_RX7 : ∀ w ∈ wsX70, w ∈ wsX7_add := by decide +kernel
set_option maxHeartbeats 4000000 in
set_option maxRecDepth 100000 in
theorem c_X7_add (l : Launch) {D : va_G} {T : Nat → ClassId} {dE mi : Nat} {g : Nat} {S : Nat → Int32} {Y : Nat → Nat → Int32} {H : Heap} (hR : RM D T g S Y H) {M : mSt} (hM : Rel S Y M) {b : Nat} (hI : Inv b M) (x kd v : Int32) : vx_Met l yX7_add wsX7_add (rmL 3 0 0) (PcE D T dE mi (AM g) H [.ref g, .int x, .int kd, .int v]) (QI (AM g) (fun r H1 => PM D T g (oAdd M x kd v) r H1)) (XX (AM g) (XN)) 0 0 (AM g) := by
  refine entry (cc := cX7_add) (maxL := 5) (ret := (some .int)) (by decide) rfl (Nat.le_of_ble_eq_true rfl) ?_
  intro p e s m args below meth c hx hb hrt9 hml hown hts hlk hnt hnm hev hS ls hl
  have hown : s.vm.findClass RX7 = some m.cls := hown
  have hK := hev.1
  have hl : lv_has ls 5 [(0, .ref g), (1, .int x), (2, .int kd), (3, .int v)] := hl
  obtain ⟨hT, hE, hRw, hQ, hW, hY⟩ := id hM
  obtain ⟨iE, iR, iQ, iW, iY, hb9, hh⟩ := id hI
  have hb0 : b ≤ 1000000 := Nat.le_trans hb9 (by decide)
  refine lv_aload_n hx hb dX7_add_0 rfl (lv_at hl 0 rfl) ?_
  refine lv_aload_n hx hb dX7_add_1 rfl (lv_at hl 0 rfl) ?_
  refine lv_iload_n hx hb dX7_add_2 rfl (lv_at hl 1 rfl) ?_
  refine lv_iload_n hx hb dX7_add_3 rfl (lv_at hl 2 rfl) ?_
  refine k_ip (k_V (As := [.int x, .int kd]) (rest := [.ref g]) ⟨hx, hb, hml, hown, hts⟩ hev hS (c_X7_whyNotAdd l hR hM hI x kd) (cwV 2 hts gX7_add_X7_whyNotAdd rfl rfl rfl (by decide +kernel) ⟨Nat.le_of_ble_eq_true rfl, Nat.le_of_ble_eq_true rfl⟩) (x_recv hK hR.1 rfl) rfl hl.1 (Nat.le_of_ble_eq_true rfl) dX7_add_4 (Nat.le_of_ble_eq_true rfl) (Nat.le_of_ble_eq_true rfl)) hS hnt hlk (fun _ _ h _ => h.elim) (Nat.le_of_ble_eq_true rfl) (Nat.le_of_ble_eq_true rfl) (fun rq1_ H1 locs1 hP hz1 hS => ?_)
  refine W.widen (k := 0) (n := 0) (Nat.le_refl _) (Nat.le_refl _) ?_
  obtain ⟨cd5_, er, hcd5_, hR, hbad, hgood⟩ := hP
  refine x_top (y := (nI cd5_)) (er) ?_
  refine m_put0 (v := (nI cd5_)) hx hb hts in_X7_add_RX7 hown hK hS hR (hts (.fieldLink RX7 77 "ArcheloftModel" "thrown" "I") (by decide +kernel)) dX7_add_7 (fun H2 locs2 hR hS => ?_)
  refine lv_aload_n hx hb dX7_add_10 rfl (lv_at hl 0 rfl) ?_
  refine m_get hx hb hts in_X7_add_RX7 hown hK hR 0 (by decide) (hts (.fieldLink RX7 77 "ArcheloftModel" "thrown" "I") (by decide +kernel)) rfl (v := .int (nI cd5_)) rfl dX7_add_11 ?_
  refine y_if_le hx hb (by omega) (tgt := 19) dX7_add_14 (by decide) (fun c14 => ?_) (fun c14 => ?_)
  · subst c14
    obtain ⟨sl, i, hlk9, rfl, hi6, hk6, hbt, hwf⟩ := hgood rfl
    have hl : lv_has ls 5 [(0, .ref g), (1, .int x), (2, .int (nI i)), (3, .int v)] := hl
    obtain ⟨hs32, hsal, hsh⟩ := look_some hlk9
    have ho := oAdd_0 (v := v) hlk9 hi6 hk6 hbt hwf
    refine lv_aload_n hx hb dX7_add_19 rfl (lv_at hl 0 rfl) ?_
    refine lv_iload_n hx hb dX7_add_20 rfl (lv_at hl 1 rfl) ?_
    refine k_ip (k_V (As := [.int x]) (rest := []) ⟨hx, hb, hml, hown, hts⟩ hev hS (c_X7_slotOf l hR hE hb0 hh (x)) (cwV 1 hts gX7_add_X7_slotOf rfl rfl rfl (by decide +kernel) ⟨Nat.le_of_ble_eq_true rfl, Nat.le_of_ble_eq_true rfl⟩) (x_recv hK hR.1 rfl) rfl hl.1 (Nat.le_of_ble_eq_true rfl) dX7_add_21 (Nat.le_of_ble_eq_true rfl) (Nat.le_of_ble_eq_true rfl)) hS hnt hlk (fun _ _ h _ => h.elim) (Nat.le_of_ble_eq_true rfl) (Nat.le_of_ble_eq_true rfl) (fun rq3_ H3 locs3 hP hz3 hS => ?_)
    refine W.widen (k := 0) (n := 0) (Nat.le_refl _) (Nat.le_refl _) ?_
    have hR : RM D T g (upd S 0 (nI 0)) Y H3 := by rw [hP.1]; exact hR
    have er2 := hP.2
    refine x_top (y := (nI sl)) (by rw [er2, hlk9]; rfl) ?_
    refine lv_istore (lv' := [(4, .int (nI sl)), (0, .ref g), (1, .int x), (2, .int (nI i)), (3, .int v)]) hx hb dX7_add_24 hl (by decide) rfl (fun ls hl => ?_)
    refine lv_aload_n hx hb dX7_add_26 rfl (lv_at hl 1 rfl) ?_
    refine lv_iload hx hb dX7_add_27 (lv_at hl 0 rfl) ?_
    refine lv_iload_n hx hb dX7_add_29 rfl (lv_at hl 3 rfl) ?_
    refine lv_iload_n hx hb dX7_add_30 rfl (lv_at hl 4 rfl) ?_
    refine k_vp (k_V (As := [.int (nI sl), .int (nI i), .int v]) (rest := []) ⟨hx, hb, hml, hown, hts⟩ hev hS (c_X7_adds l hR hE hRw iE iR hsal hi6 v) (cwV 3 hts gX7_add_X7_adds rfl rfl rfl (by decide +kernel) ⟨Nat.le_of_ble_eq_true rfl, Nat.le_of_ble_eq_true rfl⟩) (x_recv hK hR.1 rfl) rfl hl.1 (Nat.le_of_ble_eq_true rfl) dX7_add_31 (Nat.le_of_ble_eq_true rfl) (Nat.le_of_ble_eq_true rfl)) hS hnt hlk (fun _ _ h _ => h.elim) (Nat.le_of_ble_eq_true rfl) (Nat.le_of_ble_eq_true rfl) (fun H4 locs4 hP hz4 hS => ?_)
    refine W.widen (k := 0) (n := 0) (Nat.le_refl _) (Nat.le_refl _) ?_
    obtain ⟨S2, Y2, hR, hE2, hr2, fs2, fy2⟩ := hP
    refine lv_aload_n hx hb dX7_add_34 rfl (lv_at hl 1 rfl) ?_
    refine m_get hx hb hts in_X7_add_RX7 hown hK hR 4 (by decide) (hts (.fieldLink RX7 17 "ArcheloftModel" "kinds" "[I") (by decide +kernel)) rfl (v := .ref (g + 3)) rfl dX7_add_35 ?_
    refine lv_iload hx hb dX7_add_38 (lv_at hl 0 rfl) ?_
    refine m_ld3 (i := sl) hx hb hK hR (by omega) dX7_add_40 ?_
    refine x_top (y := (nI (setB (mKd (sE M) sl) i))) (by show Y2 3 sl = _; rw [hE2.2.2.1 sl hs32 hsal]; show nI (nu (mKd (sE M)) sl _ sl) = _; rw [nu_s]) ?_
    exact r_i hx hb hrt9 hlk hS (Nat.le_of_ble_eq_true rfl) (Nat.le_of_ble_eq_true rfl) dX7_add_41 (by rw [ho]; exact PM.ok hR (hM.er (by rw [← hT]; exact hE2) hr2 (fun j h0 h12 => (fs2 j h12).trans (by simp [upd, h0])) (fun j h1 h2 => fy2 j (by omega) (by omega) (by omega) (by omega) (by omega) (by omega) (by omega)) (fun z => by rw [hwf] at z; cases z)) ((fs2 0 (by decide)).trans rfl) rfl)
  · have ho := hbad (by omega) v
    refine lv_iconst (v := nI 0) hx hb dX7_add_17 (by decide) ?_
    exact r_i hx hb hrt9 hlk hS (Nat.le_of_ble_eq_true rfl) (Nat.le_of_ble_eq_true rfl) dX7_add_18 (by rw [ho]; exact PM.err (by omega) hR hM rfl)
set_option maxRecDepth 100000 in
theorem in_X7_value_RX7 : ∀ w ∈ wsX70, w ∈ wsX7_value := by decide +kernel
set_option maxHeartbeats 4000000 in
set_option maxRecDepth 100000 in
theorem c_X7_value (l : Launch) {D : va_G} {T : Nat → ClassId} {dE mi : Nat} {g : Nat} {S : Nat → Int32} {Y : Nat → Nat → Int32} {H : Heap} (hR : RM D T g S Y H) {M : mSt} (hM : Rel S Y M) {b : Nat} (hI : Inv b M) (x kd : Int32) : vx_Met l yX7_value wsX7_value (rmL 2 0 0) (PcE D T dE mi (AM g) H [.ref g, .int x, .int kd]) (QI (AM g) (fun r H1 => PM D T g (oValue M x kd) r H1)) (XX (AM g) (XN)) 0 0 (AM g) := by
  refine entry (cc := cX7_value) (maxL := 4) (ret := (some .int)) (by decide) rfl (Nat.le_of_ble_eq_true rfl) ?_
  intro p e s m args below meth c hx hb hrt9 hml hown hts hlk hnt hnm hev hS ls hl
  have hown : s.vm.findClass RX7 = some m.cls := hown
  have hK := hev.1
  have hl : lv_has ls 4 [(0, .ref g), (1, .int x), (2, .int kd)] := hl
  obtain ⟨hT, hE, hRw, hQ, hW, hY⟩ := id hM
  obtain ⟨iE, iR, iQ, iW, iY, hb9, hh⟩ := id hI
  have hb0 : b ≤ 1000000 := Nat.le_trans hb9 (by decide)
  refine lv_aload_n hx hb dX7_value_0 rfl (lv_at hl 0 rfl) ?_
  refine lv_iload_n hx hb dX7_value_1 rfl (lv_at hl 1 rfl) ?_
  refine lv_iload_n hx hb dX7_value_2 rfl (lv_at hl 2 rfl) ?_
  refine k_ip (k_V (As := [.int x, .int kd]) (rest := []) ⟨hx, hb, hml, hown, hts⟩ hev hS (c_X7_asks l hR hM hI x kd) (cwV 2 hts gX7_value_X7_asks rfl rfl rfl (by decide +kernel) ⟨Nat.le_of_ble_eq_true rfl, Nat.le_of_ble_eq_true rfl⟩) (x_recv hK hR.1 rfl) rfl hl.1 (Nat.le_of_ble_eq_true rfl) dX7_value_3 (Nat.le_of_ble_eq_true rfl) (Nat.le_of_ble_eq_true rfl)) hS hnt hlk (fun _ _ h _ => h.elim) (Nat.le_of_ble_eq_true rfl) (Nat.le_of_ble_eq_true rfl) (fun rq1_ H1 locs1 hP hz1 hS => ?_)
  refine W.widen (k := 0) (n := 0) (Nat.le_refl _) (Nat.le_refl _) ?_
  obtain ⟨cd5_, sl, i, hask, hcd5_, hR, hok⟩ := hP
  refine lv_istore_n (lv' := [(3, .int rq1_), (0, .ref g), (1, .int x), (2, .int kd)]) hx hb dX7_value_6 rfl hl (by decide) rfl (fun ls hl => ?_)
  refine lv_aload_n hx hb dX7_value_7 rfl (lv_at hl 1 rfl) ?_
  refine m_get hx hb hts in_X7_value_RX7 hown hK hR 0 (by decide) (hts (.fieldLink RX7 77 "ArcheloftModel" "thrown" "I") (by decide +kernel)) rfl (v := .int (nI cd5_)) rfl dX7_value_8 ?_
  refine y_if_le hx hb (by omega) (tgt := 18) dX7_value_11 (by decide) (fun c11 => ?_) (fun c11 => ?_)
  · subst c11
    obtain ⟨rfl, hs32, hi6, hsal, hlk9, rfl, hbt⟩ := hok rfl
    have hl : lv_has ls 4 [(3, .int (nI (6 * sl + i))), (0, .ref g), (1, .int x), (2, .int (nI i))] := hl
    have ho : oValue M x (nI i) = oRet M (mVal (sE M) sl i) := by unfold oValue; rw [hask]; exact if_neg (fun z => z rfl)
    refine lv_aload_n hx hb dX7_value_18 rfl (lv_at hl 1 rfl) ?_
    refine m_get hx hb hts in_X7_value_RX7 hown hK hR 6 (by decide) (hts (.fieldLink RX7 23 "ArcheloftModel" "values" "[I") (by decide +kernel)) rfl (v := .ref (g + 5)) rfl dX7_value_19 ?_
    refine lv_iload_n hx hb dX7_value_22 rfl (lv_at hl 0 rfl) ?_
    refine m_ld5 (i := 6 * sl + i) hx hb hK hR (by omega) dX7_value_23 ?_
    refine x_top (y := ((mVal (sE M) sl i))) (hE.2.2.2.2.1 sl i hs32 hi6) ?_
    exact r_i hx hb hrt9 hlk hS (Nat.le_of_ble_eq_true rfl) (Nat.le_of_ble_eq_true rfl) dX7_value_24 (by rw [ho]; exact PM.ret hR hM rfl rfl)
  · have ho : oValue M x kd = oErr M cd5_ := by unfold oValue; rw [hask]; exact if_pos (by show cd5_ ≠ 0; omega)
    refine lv_iconst (v := nI 0) hx hb dX7_value_14 (by decide) ?_
    refine lv_goto (tgt := 24) hx hb dX7_value_15 (by decide) ?_
    exact r_i hx hb hrt9 hlk hS (Nat.le_of_ble_eq_true rfl) (Nat.le_of_ble_eq_true rfl) dX7_value_24 (by rw [ho]; exact PM.err (by omega) hR hM rfl)
set_option maxRecDepth 100000 in
theorem in_X7_mark_RX7 : ∀ w ∈ wsX70, w ∈ wsX7_mark := by decide +kernel
set_option maxHeartbeats 4000000 in
set_option maxRecDepth 100000 in
theorem c_X7_mark (l : Launch) {D : va_G} {T : Nat → ClassId} {dE mi : Nat} {g : Nat} {S : Nat → Int32} {Y : Nat → Nat → Int32} {H : Heap} (hR : RM D T g S Y H) {M : mSt} (hM : Rel S Y M) {b : Nat} (hI : Inv b M) (x kd : Int32) : vx_Met l yX7_mark wsX7_mark (rmL 2 0 0) (PcE D T dE mi (AM g) H [.ref g, .int x, .int kd]) (QI (AM g) (fun r H1 => PM D T g (oMark M x kd) r H1)) (XX (AM g) (XN)) 0 0 (AM g) := by
  refine entry (cc := cX7_mark) (maxL := 4) (ret := (some .int)) (by decide) rfl (Nat.le_of_ble_eq_true rfl) ?_
  intro p e s m args below meth c hx hb hrt9 hml hown hts hlk hnt hnm hev hS ls hl
  have hown : s.vm.findClass RX7 = some m.cls := hown
  have hK := hev.1
  have hl : lv_has ls 4 [(0, .ref g), (1, .int x), (2, .int kd)] := hl
  obtain ⟨hT, hE, hRw, hQ, hW, hY⟩ := id hM
  obtain ⟨iE, iR, iQ, iW, iY, hb9, hh⟩ := id hI
  have hb0 : b ≤ 1000000 := Nat.le_trans hb9 (by decide)
  refine lv_aload_n hx hb dX7_mark_0 rfl (lv_at hl 0 rfl) ?_
  refine lv_iload_n hx hb dX7_mark_1 rfl (lv_at hl 1 rfl) ?_
  refine lv_iload_n hx hb dX7_mark_2 rfl (lv_at hl 2 rfl) ?_
  refine k_ip (k_V (As := [.int x, .int kd]) (rest := []) ⟨hx, hb, hml, hown, hts⟩ hev hS (c_X7_asks l hR hM hI x kd) (cwV 2 hts gX7_mark_X7_asks rfl rfl rfl (by decide +kernel) ⟨Nat.le_of_ble_eq_true rfl, Nat.le_of_ble_eq_true rfl⟩) (x_recv hK hR.1 rfl) rfl hl.1 (Nat.le_of_ble_eq_true rfl) dX7_mark_3 (Nat.le_of_ble_eq_true rfl) (Nat.le_of_ble_eq_true rfl)) hS hnt hlk (fun _ _ h _ => h.elim) (Nat.le_of_ble_eq_true rfl) (Nat.le_of_ble_eq_true rfl) (fun rq1_ H1 locs1 hP hz1 hS => ?_)
  refine W.widen (k := 0) (n := 0) (Nat.le_refl _) (Nat.le_refl _) ?_
  obtain ⟨cd5_, sl, i, hask, hcd5_, hR, hok⟩ := hP
  refine lv_istore_n (lv' := [(3, .int rq1_), (0, .ref g), (1, .int x), (2, .int kd)]) hx hb dX7_mark_6 rfl hl (by decide) rfl (fun ls hl => ?_)
  refine lv_aload_n hx hb dX7_mark_7 rfl (lv_at hl 1 rfl) ?_
  refine m_get hx hb hts in_X7_mark_RX7 hown hK hR 0 (by decide) (hts (.fieldLink RX7 77 "ArcheloftModel" "thrown" "I") (by decide +kernel)) rfl (v := .int (nI cd5_)) rfl dX7_mark_8 ?_
  refine y_if_le hx hb (by omega) (tgt := 18) dX7_mark_11 (by decide) (fun c11 => ?_) (fun c11 => ?_)
  · subst c11
    obtain ⟨rfl, hs32, hi6, hsal, hlk9, rfl, hbt⟩ := hok rfl
    have hl : lv_has ls 4 [(3, .int (nI (6 * sl + i))), (0, .ref g), (1, .int x), (2, .int (nI i))] := hl
    have ho : oMark M x (nI i) = oRet M (mMk (sE M) sl i) := by unfold oMark; rw [hask]; exact if_neg (fun z => z rfl)
    refine lv_aload_n hx hb dX7_mark_18 rfl (lv_at hl 1 rfl) ?_
    refine m_get hx hb hts in_X7_mark_RX7 hown hK hR 7 (by decide) (hts (.fieldLink RX7 26 "ArcheloftModel" "marks" "[I") (by decide +kernel)) rfl (v := .ref (g + 6)) rfl dX7_mark_19 ?_
    refine lv_iload_n hx hb dX7_mark_22 rfl (lv_at hl 0 rfl) ?_
    refine m_ld6 (i := 6 * sl + i) hx hb hK hR (by omega) dX7_mark_23 ?_
    refine x_top (y := ((mMk (sE M) sl i))) (hE.2.2.2.2.2 sl i hs32 hi6) ?_
    exact r_i hx hb hrt9 hlk hS (Nat.le_of_ble_eq_true rfl) (Nat.le_of_ble_eq_true rfl) dX7_mark_24 (by rw [ho]; exact PM.ret hR hM rfl rfl)
  · have ho : oMark M x kd = oErr M cd5_ := by unfold oMark; rw [hask]; exact if_pos (by show cd5_ ≠ 0; omega)
    refine lv_iconst (v := nI 0) hx hb dX7_mark_14 (by decide) ?_
    refine lv_goto (tgt := 24) hx hb dX7_mark_15 (by decide) ?_
    exact r_i hx hb hrt9 hlk hS (Nat.le_of_ble_eq_true rfl) (Nat.le_of_ble_eq_true rfl) dX7_mark_24 (by rw [ho]; exact PM.err (by omega) hR hM rfl)
set_option maxRecDepth 100000 in
theorem in_X7_set_RX7 : ∀ w ∈ wsX70, w ∈ wsX7_set := by decide +kernel
set_option maxHeartbeats 4000000 in
set_option maxRecDepth 100000 in
theorem c_X7_set (l : Launch) {D : va_G} {T : Nat → ClassId} {dE mi : Nat} {g : Nat} {S : Nat → Int32} {Y : Nat → Nat → Int32} {H : Heap} (hR : RM D T g S Y H) {M : mSt} (hM : Rel S Y M) {b : Nat} (hI : Inv b M) (x kd v : Int32) : vx_Met l yX7_set wsX7_set (rmL 2 0 0) (PcE D T dE mi (AM g) H [.ref g, .int x, .int kd, .int v]) (QI (AM g) (fun r H1 => PM D T g (oSet M x kd v) r H1)) (XX (AM g) (XN)) 0 0 (AM g) := by
  refine entry (cc := cX7_set) (maxL := 6) (ret := (some .int)) (by decide) rfl (Nat.le_of_ble_eq_true rfl) ?_
  intro p e s m args below meth c hx hb hrt9 hml hown hts hlk hnt hnm hev hS ls hl
  have hown : s.vm.findClass RX7 = some m.cls := hown
  have hK := hev.1
  have hl : lv_has ls 6 [(0, .ref g), (1, .int x), (2, .int kd), (3, .int v)] := hl
  obtain ⟨hT, hE, hRw, hQ, hW, hY⟩ := id hM
  obtain ⟨iE, iR, iQ, iW, iY, hb9, hh⟩ := id hI
  have hb0 : b ≤ 1000000 := Nat.le_trans hb9 (by decide)
  refine lv_aload_n hx hb dX7_set_0 rfl (lv_at hl 0 rfl) ?_
  refine lv_iload_n hx hb dX7_set_1 rfl (lv_at hl 1 rfl) ?_
  refine lv_iload_n hx hb dX7_set_2 rfl (lv_at hl 2 rfl) ?_
  refine k_ip (k_V (As := [.int x, .int kd]) (rest := []) ⟨hx, hb, hml, hown, hts⟩ hev hS (c_X7_asks l hR hM hI x kd) (cwV 2 hts gX7_set_X7_asks rfl rfl rfl (by decide +kernel) ⟨Nat.le_of_ble_eq_true rfl, Nat.le_of_ble_eq_true rfl⟩) (x_recv hK hR.1 rfl) rfl hl.1 (Nat.le_of_ble_eq_true rfl) dX7_set_3 (Nat.le_of_ble_eq_true rfl) (Nat.le_of_ble_eq_true rfl)) hS hnt hlk (fun _ _ h _ => h.elim) (Nat.le_of_ble_eq_true rfl) (Nat.le_of_ble_eq_true rfl) (fun rq1_ H1 locs1 hP hz1 hS => ?_)
  refine W.widen (k := 0) (n := 0) (Nat.le_refl _) (Nat.le_refl _) ?_
  obtain ⟨cd5_, sl, i, hask, hcd5_, hR, hok⟩ := hP
  refine lv_istore (lv' := [(4, .int rq1_), (0, .ref g), (1, .int x), (2, .int kd), (3, .int v)]) hx hb dX7_set_6 hl (by decide) rfl (fun ls hl => ?_)
  refine lv_aload_n hx hb dX7_set_8 rfl (lv_at hl 1 rfl) ?_
  refine m_get hx hb hts in_X7_set_RX7 hown hK hR 0 (by decide) (hts (.fieldLink RX7 77 "ArcheloftModel" "thrown" "I") (by decide +kernel)) rfl (v := .int (nI cd5_)) rfl dX7_set_9 ?_
  refine y_if_le hx hb (by omega) (tgt := 17) dX7_set_12 (by decide) (fun c12 => ?_) (fun c12 => ?_)
  · subst c12
    obtain ⟨rfl, hs32, hi6, hsal, hlk9, rfl, hbt⟩ := hok rfl
    have hl : lv_has ls 6 [(4, .int (nI (6 * sl + i))), (0, .ref g), (1, .int x), (2, .int (nI i)), (3, .int v)] := hl
    have ho : oSet M x (nI i) v = (0, mVal (sE M) sl i, wE M (putE (sE M) sl i v (sT M))) := by unfold oSet; rw [hask]; exact if_neg (fun z => z rfl)
    refine lv_aload_n hx hb dX7_set_17 rfl (lv_at hl 1 rfl) ?_
    refine m_get hx hb hts in_X7_set_RX7 hown hK hR 6 (by decide) (hts (.fieldLink RX7 23 "ArcheloftModel" "values" "[I") (by decide +kernel)) rfl (v := .ref (g + 5)) rfl dX7_set_18 ?_
    refine lv_iload hx hb dX7_set_21 (lv_at hl 0 rfl) ?_
    refine m_ld5 (i := 6 * sl + i) hx hb hK hR (by omega) dX7_set_23 ?_
    refine x_top (y := ((mVal (sE M) sl i))) (hE.2.2.2.2.1 sl i hs32 hi6) ?_
    refine lv_istore (lv' := [(5, .int ((mVal (sE M) sl i))), (4, .int (nI (6 * sl + i))), (0, .ref g), (1, .int x), (2, .int (nI i)), (3, .int v)]) hx hb dX7_set_24 hl (by decide) rfl (fun ls hl => ?_)
    refine lv_aload_n hx hb dX7_set_26 rfl (lv_at hl 2 rfl) ?_
    refine m_get hx hb hts in_X7_set_RX7 hown hK hR 6 (by decide) (hts (.fieldLink RX7 23 "ArcheloftModel" "values" "[I") (by decide +kernel)) rfl (v := .ref (g + 5)) rfl dX7_set_27 ?_
    refine lv_iload hx hb dX7_set_30 (lv_at hl 1 rfl) ?_
    refine lv_iload_n hx hb dX7_set_32 rfl (lv_at hl 5 rfl) ?_
    refine m_st5 (i := 6 * sl + i) (v := v) hx hb hK hS hR (by omega) dX7_set_33 (fun H2 locs2 hR hS => ?_)
    refine lv_aload_n hx hb dX7_set_34 rfl (lv_at hl 2 rfl) ?_
    refine m_get hx hb hts in_X7_set_RX7 hown hK hR 7 (by decide) (hts (.fieldLink RX7 26 "ArcheloftModel" "marks" "[I") (by decide +kernel)) rfl (v := .ref (g + 6)) rfl dX7_set_35 ?_
    refine lv_iload hx hb dX7_set_38 (lv_at hl 1 rfl) ?_
    refine lv_aload_n hx hb dX7_set_40 rfl (lv_at hl 2 rfl) ?_
    refine m_get hx hb hts in_X7_set_RX7 hown hK hR 1 (by decide) (hts (.fieldLink RX7 95 "ArcheloftModel" "tick" "I") (by decide +kernel)) rfl (v := .int (S 1)) rfl dX7_set_41 ?_
    refine x_top (y := ((sT M))) (hT) ?_
    refine m_st6 (i := 6 * sl + i) (v := ((sT M))) hx hb hK hS hR (by omega) dX7_set_44 (fun H3 locs3 hR hS => ?_)
    refine lv_iload hx hb dX7_set_45 (lv_at hl 0 rfl) ?_
    exact r_i hx hb hrt9 hlk hS (Nat.le_of_ble_eq_true rfl) (Nat.le_of_ble_eq_true rfl) dX7_set_47 (by rw [ho]; exact PM.ok hR (hM.e (relE_put hE hs32 hi6 (fun _ => rfl) (fun _ => rfl) (fun j hj => by simp only [up2]; rw [if_neg (by omega), if_neg (by omega)])) (fun j h => by simp [upd, h]) (fun j h1 h2 => by simp only [up2]; rw [if_neg (by omega), if_neg (by omega)]) (fun _ _ _ => rfl)) rfl rfl)
  · have ho : oSet M x kd v = oErr M cd5_ := by unfold oSet; rw [hask]; exact if_pos (by show cd5_ ≠ 0; omega)
    refine lv_iconst (v := nI 0) hx hb dX7_set_15 (by decide) ?_
    exact r_i hx hb hrt9 hlk hS (Nat.le_of_ble_eq_true rfl) (Nat.le_of_ble_eq_true rfl) dX7_set_16 (by rw [ho]; exact PM.err (by omega) hR hM rfl)
set_option maxRecDepth 100000 in
theorem in_X7_take_RX7 : ∀ w ∈ wsX70, w ∈ wsX7_take := by decide +kernel
set_option maxHeartbeats 4000000 in
set_option maxRecDepth 100000 in
theorem c_X7_take (l : Launch) {D : va_G} {T : Nat → ClassId} {dE mi : Nat} {g : Nat} {S : Nat → Int32} {Y : Nat → Nat → Int32} {H : Heap} (hR : RM D T g S Y H) {M : mSt} (hM : Rel S Y M) {b : Nat} (hI : Inv b M) (x kd : Int32) : vx_Met l yX7_take wsX7_take (rmL 2 0 0) (PcE D T dE mi (AM g) H [.ref g, .int x, .int kd]) (QI (AM g) (fun r H1 => PM D T g (oTake M x kd) r H1)) (XX (AM g) (XN)) 0 0 (AM g) := by
  refine entry (cc := cX7_take) (maxL := 5) (ret := (some .int)) (by decide) rfl (Nat.le_of_ble_eq_true rfl) ?_
  intro p e s m args below meth c hx hb hrt9 hml hown hts hlk hnt hnm hev hS ls hl
  have hown : s.vm.findClass RX7 = some m.cls := hown
  have hK := hev.1
  have hl : lv_has ls 5 [(0, .ref g), (1, .int x), (2, .int kd)] := hl
  obtain ⟨hT, hE, hRw, hQ, hW, hY⟩ := id hM
  obtain ⟨iE, iR, iQ, iW, iY, hb9, hh⟩ := id hI
  have hb0 : b ≤ 1000000 := Nat.le_trans hb9 (by decide)
  refine lv_aload_n hx hb dX7_take_0 rfl (lv_at hl 0 rfl) ?_
  refine lv_iload_n hx hb dX7_take_1 rfl (lv_at hl 1 rfl) ?_
  refine lv_iload_n hx hb dX7_take_2 rfl (lv_at hl 2 rfl) ?_
  refine k_ip (k_V (As := [.int x, .int kd]) (rest := []) ⟨hx, hb, hml, hown, hts⟩ hev hS (c_X7_asks l hR hM hI x kd) (cwV 2 hts gX7_take_X7_asks rfl rfl rfl (by decide +kernel) ⟨Nat.le_of_ble_eq_true rfl, Nat.le_of_ble_eq_true rfl⟩) (x_recv hK hR.1 rfl) rfl hl.1 (Nat.le_of_ble_eq_true rfl) dX7_take_3 (Nat.le_of_ble_eq_true rfl) (Nat.le_of_ble_eq_true rfl)) hS hnt hlk (fun _ _ h _ => h.elim) (Nat.le_of_ble_eq_true rfl) (Nat.le_of_ble_eq_true rfl) (fun rq1_ H1 locs1 hP hz1 hS => ?_)
  refine W.widen (k := 0) (n := 0) (Nat.le_refl _) (Nat.le_refl _) ?_
  obtain ⟨cd5_, sl, i, hask, hcd5_, hR, hok⟩ := hP
  refine lv_istore_n (lv' := [(3, .int rq1_), (0, .ref g), (1, .int x), (2, .int kd)]) hx hb dX7_take_6 rfl hl (by decide) rfl (fun ls hl => ?_)
  refine lv_aload_n hx hb dX7_take_7 rfl (lv_at hl 1 rfl) ?_
  refine lv_aload_n hx hb dX7_take_8 rfl (lv_at hl 1 rfl) ?_
  refine m_get hx hb hts in_X7_take_RX7 hown hK hR 0 (by decide) (hts (.fieldLink RX7 77 "ArcheloftModel" "thrown" "I") (by decide +kernel)) rfl (v := .int (nI cd5_)) rfl dX7_take_9 ?_
  refine y_if_ne hx hb (by omega) (tgt := 26) dX7_take_12 (by decide) (fun c12 => ?_) (fun c12 => ?_)
  · have ho : oTake M x kd = oErr M cd5_ := by unfold oTake; rw [hask]; exact if_pos (by show cd5_ ≠ 0; omega)
    refine lv_aload_n hx hb dX7_take_26 rfl (lv_at hl 1 rfl) ?_
    refine m_get hx hb hts in_X7_take_RX7 hown hK hR 0 (by decide) (hts (.fieldLink RX7 77 "ArcheloftModel" "thrown" "I") (by decide +kernel)) rfl (v := .int (nI cd5_)) rfl dX7_take_27 ?_
    refine m_put0 (v := (nI cd5_)) hx hb hts in_X7_take_RX7 hown hK hS hR (hts (.fieldLink RX7 77 "ArcheloftModel" "thrown" "I") (by decide +kernel)) dX7_take_30 (fun H2 locs2 hR hS => ?_)
    refine lv_aload_n hx hb dX7_take_33 rfl (lv_at hl 1 rfl) ?_
    refine m_get hx hb hts in_X7_take_RX7 hown hK hR 0 (by decide) (hts (.fieldLink RX7 77 "ArcheloftModel" "thrown" "I") (by decide +kernel)) rfl (v := .int (nI cd5_)) rfl dX7_take_34 ?_
    refine y_if_le hx hb (by omega) (tgt := 42) dX7_take_37 (by decide) (fun c37 => ?_) (fun c37 => ?_)
    · exact absurd c37 (by omega)
    · refine lv_iconst (v := nI 0) hx hb dX7_take_40 (by decide) ?_
      exact r_i hx hb hrt9 hlk hS (Nat.le_of_ble_eq_true rfl) (Nat.le_of_ble_eq_true rfl) dX7_take_41 (by rw [ho]; exact PM.err (by omega) hR hM rfl)
  · subst c12
    obtain ⟨rfl, hs32, hi6, hsal, hlk9, rfl, hbt⟩ := hok rfl
    have hl : lv_has ls 5 [(3, .int (nI (6 * sl + i))), (0, .ref g), (1, .int x), (2, .int (nI i))] := hl
    refine lv_aload_n hx hb dX7_take_15 rfl (lv_at hl 1 rfl) ?_
    refine m_get hx hb hts in_X7_take_RX7 hown hK hR 17 (by decide) (hts (.fieldLink RX7 102 "ArcheloftModel" "isWalking" "Z") (by decide +kernel)) rfl (v := .int (S 17)) rfl dX7_take_16 ?_
    refine x_top (y := (bI (wOn (sW M)))) (hW.1) ?_
    refine y_bif_eq hx hb (tgt := 26) dX7_take_19 (by decide) (fun c19 => ?_) (fun c19 => ?_)
    · have hwf := c19
      have ho : oTake M x (nI i) = (0, mVal (sE M) sl i, wER M (takesE (sE M) sl i) (takesR (sE M) (sR M) sl i)) := by unfold oTake; rw [hask]; exact (if_neg (fun z => z rfl)).trans (if_neg (by rw [hwf]; decide))
      refine lv_aload_n hx hb dX7_take_26 rfl (lv_at hl 1 rfl) ?_
      refine m_get hx hb hts in_X7_take_RX7 hown hK hR 0 (by decide) (hts (.fieldLink RX7 77 "ArcheloftModel" "thrown" "I") (by decide +kernel)) rfl (v := .int (nI 0)) rfl dX7_take_27 ?_
      refine m_put0 (v := (nI 0)) hx hb hts in_X7_take_RX7 hown hK hS hR (hts (.fieldLink RX7 77 "ArcheloftModel" "thrown" "I") (by decide +kernel)) dX7_take_30 (fun H3 locs3 hR hS => ?_)
      refine lv_aload_n hx hb dX7_take_33 rfl (lv_at hl 1 rfl) ?_
      refine m_get hx hb hts in_X7_take_RX7 hown hK hR 0 (by decide) (hts (.fieldLink RX7 77 "ArcheloftModel" "thrown" "I") (by decide +kernel)) rfl (v := .int (nI 0)) rfl dX7_take_34 ?_
      refine y_if_le hx hb (by decide) (tgt := 42) dX7_take_37 (by decide) (fun c37 => ?_) (fun c37 => ?_)
      · refine lv_aload_n hx hb dX7_take_42 rfl (lv_at hl 1 rfl) ?_
        refine lv_iload_n hx hb dX7_take_43 rfl (lv_at hl 2 rfl) ?_
        refine k_ip (k_V (As := [.int x]) (rest := []) ⟨hx, hb, hml, hown, hts⟩ hev hS (c_X7_slotOf l hR hE hb0 hh (x)) (cwV 1 hts gX7_take_X7_slotOf rfl rfl rfl (by decide +kernel) ⟨Nat.le_of_ble_eq_true rfl, Nat.le_of_ble_eq_true rfl⟩) (x_recv hK hR.1 rfl) rfl hl.1 (Nat.le_of_ble_eq_true rfl) dX7_take_44 (Nat.le_of_ble_eq_true rfl) (Nat.le_of_ble_eq_true rfl)) hS hnt hlk (fun _ _ h _ => h.elim) (Nat.le_of_ble_eq_true rfl) (Nat.le_of_ble_eq_true rfl) (fun rq4_ H4 locs4 hP hz4 hS => ?_)
        refine W.widen (k := 0) (n := 0) (Nat.le_refl _) (Nat.le_refl _) ?_
        have hR : RM D T g (upd (upd S 0 (nI 0)) 0 (nI 0)) Y H4 := by rw [hP.1]; exact hR
        have er2 := hP.2
        refine x_top (y := (nI sl)) (by rw [er2, hlk9]; rfl) ?_
        refine lv_istore (lv' := [(4, .int (nI sl)), (3, .int (nI (6 * sl + i))), (0, .ref g), (1, .int x), (2, .int (nI i))]) hx hb dX7_take_47 hl (by decide) rfl (fun ls hl => ?_)
        refine lv_aload_n hx hb dX7_take_49 rfl (lv_at hl 2 rfl) ?_
        refine lv_iload hx hb dX7_take_50 (lv_at hl 0 rfl) ?_
        refine lv_aload_n hx hb dX7_take_52 rfl (lv_at hl 2 rfl) ?_
        refine m_get hx hb hts in_X7_take_RX7 hown hK hR 4 (by decide) (hts (.fieldLink RX7 17 "ArcheloftModel" "kinds" "[I") (by decide +kernel)) rfl (v := .ref (g + 3)) rfl dX7_take_53 ?_
        refine lv_iload hx hb dX7_take_56 (lv_at hl 0 rfl) ?_
        refine m_ld3 (i := sl) hx hb hK hR (by omega) dX7_take_58 ?_
        refine x_top (y := (nI (mKd (sE M) sl))) (hE.2.2.1 sl hs32 hsal) ?_
        refine lv_iconst (v := nI 1) hx hb dX7_take_59 (by decide) ?_
        refine lv_iload_n hx hb dX7_take_60 rfl (lv_at hl 4 rfl) ?_
        refine lv_ishl hx hb dX7_take_61 ?_
        refine lv_iconst (v := -1) hx hb dX7_take_62 (by decide) ?_
        refine lv_ixor hx hb dX7_take_63 ?_
        refine lv_iand hx hb dX7_take_64 ?_
        refine x_top (y := (nI (clrB (mKd (sE M) sl) i))) ((bit_clr (mKd (sE M) sl) (iE.1 sl) i hi6).1) ?_
        refine k_vp (k_V (As := [.int (nI sl), .int (nI (clrB (mKd (sE M) sl) i))]) (rest := []) ⟨hx, hb, hml, hown, hts⟩ hev hS (c_X7_becomes l hR hE hRw iE iR hsal (bit_clr (mKd (sE M) sl) (iE.1 sl) i hi6).2) (cwV 2 hts gX7_take_X7_becomes rfl rfl rfl (by decide +kernel) ⟨Nat.le_of_ble_eq_true rfl, Nat.le_of_ble_eq_true rfl⟩) (x_recv hK hR.1 rfl) rfl hl.1 (Nat.le_of_ble_eq_true rfl) dX7_take_65 (Nat.le_of_ble_eq_true rfl) (Nat.le_of_ble_eq_true rfl)) hS hnt hlk (fun _ _ h _ => h.elim) (Nat.le_of_ble_eq_true rfl) (Nat.le_of_ble_eq_true rfl) (fun H5 locs5 hP hz5 hS => ?_)
        refine W.widen (k := 0) (n := 0) (Nat.le_refl _) (Nat.le_refl _) ?_
        obtain ⟨S2, Y2, hR, hE2, hr2, fs2, fy2⟩ := hP
        refine lv_aload_n hx hb dX7_take_68 rfl (lv_at hl 2 rfl) ?_
        refine m_get hx hb hts in_X7_take_RX7 hown hK hR 6 (by decide) (hts (.fieldLink RX7 23 "ArcheloftModel" "values" "[I") (by decide +kernel)) rfl (v := .ref (g + 5)) rfl dX7_take_69 ?_
        refine lv_iload_n hx hb dX7_take_72 rfl (lv_at hl 1 rfl) ?_
        refine m_ld5 (i := 6 * sl + i) hx hb hK hR (by omega) dX7_take_73 ?_
        refine x_top (y := ((mVal (sE M) sl i))) (by show Y2 5 _ = _; rw [fy2 5 (by decide) (by decide) (by decide) (by decide) (by decide)]; exact hE.2.2.2.2.1 sl i hs32 hi6) ?_
        exact r_i hx hb hrt9 hlk hS (Nat.le_of_ble_eq_true rfl) (Nat.le_of_ble_eq_true rfl) dX7_take_74 (by rw [ho]; exact PM.ok hR (hM.er hE2 hr2 (fun j h0 h12 => (fs2 j h12).trans (by simp [upd, h0])) (fun j h1 h2 => fy2 j (by omega) (by omega) (by omega) (by omega) (by omega)) (fun z => by rw [hwf] at z; cases z)) ((fs2 0 (by decide)).trans rfl) rfl)
      · exact absurd c37 (by decide)
    · have ho : oTake M x (nI i) = oErr M 3 := by unfold oTake; rw [hask]; exact (if_neg (fun z => z rfl)).trans (if_pos c19)
      refine lv_iconst (v := nI 3) hx hb dX7_take_22 (by decide) ?_
      refine lv_goto (tgt := 30) hx hb dX7_take_23 (by decide) ?_
      refine m_put0 (v := (nI 3)) hx hb hts in_X7_take_RX7 hown hK hS hR (hts (.fieldLink RX7 77 "ArcheloftModel" "thrown" "I") (by decide +kernel)) dX7_take_30 (fun H6 locs6 hR hS => ?_)
      refine lv_aload_n hx hb dX7_take_33 rfl (lv_at hl 1 rfl) ?_
      refine m_get hx hb hts in_X7_take_RX7 hown hK hR 0 (by decide) (hts (.fieldLink RX7 77 "ArcheloftModel" "thrown" "I") (by decide +kernel)) rfl (v := .int (nI 3)) rfl dX7_take_34 ?_
      refine y_if_le hx hb (by decide) (tgt := 42) dX7_take_37 (by decide) (fun c37 => ?_) (fun c37 => ?_)
      · exact absurd c37 (by decide)
      · refine lv_iconst (v := nI 0) hx hb dX7_take_40 (by decide) ?_
        exact r_i hx hb hrt9 hlk hS (Nat.le_of_ble_eq_true rfl) (Nat.le_of_ble_eq_true rfl) dX7_take_41 (by rw [ho]; exact PM.err (by decide) hR hM rfl)
set_option maxRecDepth 100000 in
theorem in_X7_kinds_RX7 : ∀ w ∈ wsX70, w ∈ wsX7_kinds := by decide +kernel
set_option maxHeartbeats 4000000 in
set_option maxRecDepth 100000 in
theorem c_X7_kinds (l : Launch) {D : va_G} {T : Nat → ClassId} {dE mi : Nat} {g : Nat} {S : Nat → Int32} {Y : Nat → Nat → Int32} {H : Heap} (hR : RM D T g S Y H) {M : mSt} (hM : Rel S Y M) {b : Nat} (hI : Inv b M) (x : Int32) : vx_Met l yX7_kinds wsX7_kinds (rmL 1 0 0) (PcE D T dE mi (AM g) H [.ref g, .int x]) (QI (AM g) (fun r H1 => PM D T g (oKinds M x) r H1)) (XX (AM g) (XN)) 0 0 (AM g) := by
  refine entry (cc := cX7_kinds) (maxL := 3) (ret := (some .int)) (by decide) rfl (Nat.le_of_ble_eq_true rfl) ?_
  intro p e s m args below meth c hx hb hrt9 hml hown hts hlk hnt hnm hev hS ls hl
  have hown : s.vm.findClass RX7 = some m.cls := hown
  have hK := hev.1
  have hl : lv_has ls 3 [(0, .ref g), (1, .int x)] := hl
  obtain ⟨hT, hE, hRw, hQ, hW, hY⟩ := id hM
  obtain ⟨iE, iR, iQ, iW, iY, hb9, hh⟩ := id hI
  have hb0 : b ≤ 1000000 := Nat.le_trans hb9 (by decide)
  refine lv_aload_n hx hb dX7_kinds_0 rfl (lv_at hl 0 rfl) ?_
  refine lv_iload_n hx hb dX7_kinds_1 rfl (lv_at hl 1 rfl) ?_
  refine k_ip (k_V (As := [.int x]) (rest := []) ⟨hx, hb, hml, hown, hts⟩ hev hS (c_X7_slotOf l hR hE hb0 hh (x)) (cwV 1 hts gX7_kinds_X7_slotOf rfl rfl rfl (by decide +kernel) ⟨Nat.le_of_ble_eq_true rfl, Nat.le_of_ble_eq_true rfl⟩) (x_recv hK hR.1 rfl) rfl hl.1 (Nat.le_of_ble_eq_true rfl) dX7_kinds_2 (Nat.le_of_ble_eq_true rfl) (Nat.le_of_ble_eq_true rfl)) hS hnt hlk (fun _ _ h _ => h.elim) (Nat.le_of_ble_eq_true rfl) (Nat.le_of_ble_eq_true rfl) (fun rq1_ H1 locs1 hP hz1 hS => ?_)
  refine W.widen (k := 0) (n := 0) (Nat.le_refl _) (Nat.le_refl _) ?_
  have hR : RM D T g S Y H1 := by rw [hP.1]; exact hR
  have er := hP.2
  rcases hlk9 : look (sE M) (x) with _ | sl
  · refine x_top (y := ((-1))) (by rw [er, hlk9]; rfl) ?_
    have ho : oKinds M x = oErr M 1 := by unfold oKinds; rw [hlk9]
    refine lv_istore_n (lv' := [(2, .int ((-1))), (0, .ref g), (1, .int x)]) hx hb dX7_kinds_5 rfl hl (by decide) rfl (fun ls hl => ?_)
    refine lv_aload_n hx hb dX7_kinds_6 rfl (lv_at hl 1 rfl) ?_
    refine lv_iload_n hx hb dX7_kinds_7 rfl (lv_at hl 0 rfl) ?_
    refine lv_iconst (v := -1) hx hb dX7_kinds_8 (by decide) ?_
    refine lv_icmp_ne (tgt := 16) hx hb dX7_kinds_9 (by decide) (fun c9 => ?_) (fun c9 => ?_)
    · exact absurd rfl c9
    · refine lv_iconst (v := nI 1) hx hb dX7_kinds_12 (by decide) ?_
      refine lv_goto (tgt := 17) hx hb dX7_kinds_13 (by decide) ?_
      refine m_put0 (v := (nI 1)) hx hb hts in_X7_kinds_RX7 hown hK hS hR (hts (.fieldLink RX7 77 "ArcheloftModel" "thrown" "I") (by decide +kernel)) dX7_kinds_17 (fun H2 locs2 hR hS => ?_)
      refine lv_aload_n hx hb dX7_kinds_20 rfl (lv_at hl 1 rfl) ?_
      refine m_get hx hb hts in_X7_kinds_RX7 hown hK hR 0 (by decide) (hts (.fieldLink RX7 77 "ArcheloftModel" "thrown" "I") (by decide +kernel)) rfl (v := .int (nI 1)) rfl dX7_kinds_21 ?_
      refine y_if_le hx hb (by decide) (tgt := 31) dX7_kinds_24 (by decide) (fun c24 => ?_) (fun c24 => ?_)
      · exact absurd c24 (by decide)
      · refine lv_iconst (v := nI 0) hx hb dX7_kinds_27 (by decide) ?_
        refine lv_goto (tgt := 37) hx hb dX7_kinds_28 (by decide) ?_
        exact r_i hx hb hrt9 hlk hS (Nat.le_of_ble_eq_true rfl) (Nat.le_of_ble_eq_true rfl) dX7_kinds_37 (by rw [ho]; exact PM.err (by decide) hR hM rfl)
  · refine x_top (y := (nI sl)) (by rw [er, hlk9]; rfl) ?_
    obtain ⟨hs32, hsal, hsh⟩ := look_some hlk9
    have ho : oKinds M x = oRet M (nI (mKd (sE M) sl)) := by unfold oKinds; rw [hlk9]
    refine lv_istore_n (lv' := [(2, .int (nI sl)), (0, .ref g), (1, .int x)]) hx hb dX7_kinds_5 rfl hl (by decide) rfl (fun ls hl => ?_)
    refine lv_aload_n hx hb dX7_kinds_6 rfl (lv_at hl 1 rfl) ?_
    refine lv_iload_n hx hb dX7_kinds_7 rfl (lv_at hl 0 rfl) ?_
    refine lv_iconst (v := -1) hx hb dX7_kinds_8 (by decide) ?_
    refine lv_icmp_ne (tgt := 16) hx hb dX7_kinds_9 (by decide) (fun c9 => ?_) (fun c9 => ?_)
    · refine lv_iconst (v := nI 0) hx hb dX7_kinds_16 (by decide) ?_
      refine m_put0 (v := (nI 0)) hx hb hts in_X7_kinds_RX7 hown hK hS hR (hts (.fieldLink RX7 77 "ArcheloftModel" "thrown" "I") (by decide +kernel)) dX7_kinds_17 (fun H3 locs3 hR hS => ?_)
      refine lv_aload_n hx hb dX7_kinds_20 rfl (lv_at hl 1 rfl) ?_
      refine m_get hx hb hts in_X7_kinds_RX7 hown hK hR 0 (by decide) (hts (.fieldLink RX7 77 "ArcheloftModel" "thrown" "I") (by decide +kernel)) rfl (v := .int (nI 0)) rfl dX7_kinds_21 ?_
      refine y_if_le hx hb (by decide) (tgt := 31) dX7_kinds_24 (by decide) (fun c24 => ?_) (fun c24 => ?_)
      · refine lv_aload_n hx hb dX7_kinds_31 rfl (lv_at hl 1 rfl) ?_
        refine m_get hx hb hts in_X7_kinds_RX7 hown hK hR 4 (by decide) (hts (.fieldLink RX7 17 "ArcheloftModel" "kinds" "[I") (by decide +kernel)) rfl (v := .ref (g + 3)) rfl dX7_kinds_32 ?_
        refine lv_iload_n hx hb dX7_kinds_35 rfl (lv_at hl 0 rfl) ?_
        refine m_ld3 (i := sl) hx hb hK hR (by omega) dX7_kinds_36 ?_
        refine x_top (y := (nI (mKd (sE M) sl))) (hE.2.2.1 sl hs32 hsal) ?_
        exact r_i hx hb hrt9 hlk hS (Nat.le_of_ble_eq_true rfl) (Nat.le_of_ble_eq_true rfl) dX7_kinds_37 (by rw [ho]; exact PM.ret hR hM rfl rfl)
      · exact absurd c24 (by decide)
    · exact absurd c9 (nI_m1 (by omega))
set_option maxRecDepth 100000 in
theorem in_X7_setOf_RX7 : ∀ w ∈ wsX70, w ∈ wsX7_setOf := by decide +kernel
set_option maxHeartbeats 4000000 in
set_option maxRecDepth 100000 in
theorem c_X7_setOf (l : Launch) {D : va_G} {T : Nat → ClassId} {dE mi : Nat} {g : Nat} {S : Nat → Int32} {Y : Nat → Nat → Int32} {H : Heap} (hR : RM D T g S Y H) {M : mSt} (hM : Rel S Y M) {b : Nat} (hI : Inv b M) (x : Int32) : vx_Met l yX7_setOf wsX7_setOf (rmL 1 0 0) (PcE D T dE mi (AM g) H [.ref g, .int x]) (QI (AM g) (fun r H1 => PM D T g (oSetOf M x) r H1)) (XX (AM g) (XN)) 0 0 (AM g) := by
  refine entry (cc := cX7_setOf) (maxL := 2) (ret := (some .int)) (by decide) rfl (Nat.le_of_ble_eq_true rfl) ?_
  intro p e s m args below meth c hx hb hrt9 hml hown hts hlk hnt hnm hev hS ls hl
  have hown : s.vm.findClass RX7 = some m.cls := hown
  have hK := hev.1
  have hl : lv_has ls 2 [(0, .ref g), (1, .int x)] := hl
  obtain ⟨hT, hE, hRw, hQ, hW, hY⟩ := id hM
  obtain ⟨iE, iR, iQ, iW, iY, hb9, hh⟩ := id hI
  have hb0 : b ≤ 1000000 := Nat.le_trans hb9 (by decide)
  have h64 := (iR.ok iE).le
  refine lv_aload_n hx hb dX7_setOf_0 rfl (lv_at hl 0 rfl) ?_
  refine lv_iload_n hx hb dX7_setOf_1 rfl (lv_at hl 1 rfl) ?_
  refine lv_aload_n hx hb dX7_setOf_2 rfl (lv_at hl 0 rfl) ?_
  refine m_get hx hb hts in_X7_setOf_RX7 hown hK hR 12 (by decide) (hts (.fieldLink RX7 81 "ArcheloftModel" "rows" "I") (by decide +kernel)) rfl (v := .int (S 12)) rfl dX7_setOf_3 ?_
  refine x_top (y := (nI (rN (sR M)))) (hRw.1) ?_
  refine k_ip (k_V (As := [.int x, .int (nI (rN (sR M)))]) (rest := []) ⟨hx, hb, hml, hown, hts⟩ hev hS (c_X7_isIn l hR (x)) (cwV 2 hts gX7_setOf_X7_isIn rfl rfl rfl (by decide +kernel) ⟨Nat.le_of_ble_eq_true rfl, Nat.le_of_ble_eq_true rfl⟩) (x_recv hK hR.1 rfl) rfl hl.1 (Nat.le_of_ble_eq_true rfl) dX7_setOf_6 (Nat.le_of_ble_eq_true rfl) (Nat.le_of_ble_eq_true rfl)) hS hnt hlk (fun _ _ h _ => h.elim) (Nat.le_of_ble_eq_true rfl) (Nat.le_of_ble_eq_true rfl) (fun rq1_ H1 locs1 hP hz1 hS => ?_)
  refine W.widen (k := 0) (n := 0) (Nat.le_refl _) (Nat.le_refl _) ?_
  obtain ⟨b1, hb1, erb1, hR⟩ := hP
  refine x_top (y := (bI b1)) (erb1) ?_
  refine y_bif_eq hx hb (tgt := 21) dX7_setOf_9 (by decide) (fun c9 => ?_) (fun c9 => ?_)
  · rw [c9] at hb1 hR
    have ho : oSetOf M x = oErr M 1 := if_neg (by rw [← hb1]; decide)
    refine lv_iconst (v := nI 0) hx hb dX7_setOf_21 (by decide) ?_
    exact r_i hx hb hrt9 hlk hS (Nat.le_of_ble_eq_true rfl) (Nat.le_of_ble_eq_true rfl) dX7_setOf_22 (by rw [ho]; exact PM.err (by decide) hR hM rfl)
  · rw [c9] at hb1 hR
    obtain ⟨j1, hj1, rfl⟩ := inB_of (by omega) hb1.symm
    have hl : lv_has ls 2 [(0, .ref g), (1, .int (nI j1))] := hl
    have ho : oSetOf M (nI j1) = oRet M (nI (rS (sR M) j1)) := by unfold oSetOf; rw [ix_nI (by omega)]; exact if_pos hb1.symm
    refine lv_aload_n hx hb dX7_setOf_12 rfl (lv_at hl 0 rfl) ?_
    refine m_get hx hb hts in_X7_setOf_RX7 hown hK hR 9 (by decide) (hts (.fieldLink RX7 32 "ArcheloftModel" "setOf" "[I") (by decide +kernel)) rfl (v := .ref (g + 8)) rfl dX7_setOf_13 ?_
    refine lv_iload_n hx hb dX7_setOf_16 rfl (lv_at hl 1 rfl) ?_
    refine m_ld8 (i := j1) hx hb hK hR (by omega) dX7_setOf_17 ?_
    refine x_top (y := (nI (rS (sR M) j1))) (hRw.2.2.1 j1 hj1) ?_
    refine lv_goto (tgt := 22) hx hb dX7_setOf_18 (by decide) ?_
    exact r_i hx hb hrt9 hlk hS (Nat.le_of_ble_eq_true rfl) (Nat.le_of_ble_eq_true rfl) dX7_setOf_22 (by rw [ho]; exact PM.ret hR hM rfl rfl)
set_option maxRecDepth 100000 in
theorem in_X7_size_RX7 : ∀ w ∈ wsX70, w ∈ wsX7_size := by decide +kernel
set_option maxHeartbeats 4000000 in
set_option maxRecDepth 100000 in
theorem c_X7_size (l : Launch) {D : va_G} {T : Nat → ClassId} {dE mi : Nat} {g : Nat} {S : Nat → Int32} {Y : Nat → Nat → Int32} {H : Heap} (hR : RM D T g S Y H) {M : mSt} (hM : Rel S Y M) {b : Nat} (hI : Inv b M) (x : Int32) : vx_Met l yX7_size wsX7_size (rmL 1 0 0) (PcE D T dE mi (AM g) H [.ref g, .int x]) (QI (AM g) (fun r H1 => PM D T g (oSize M x) r H1)) (XX (AM g) (XN)) 0 0 (AM g) := by
  refine entry (cc := cX7_size) (maxL := 2) (ret := (some .int)) (by decide) rfl (Nat.le_of_ble_eq_true rfl) ?_
  intro p e s m args below meth c hx hb hrt9 hml hown hts hlk hnt hnm hev hS ls hl
  have hown : s.vm.findClass RX7 = some m.cls := hown
  have hK := hev.1
  have hl : lv_has ls 2 [(0, .ref g), (1, .int x)] := hl
  obtain ⟨hT, hE, hRw, hQ, hW, hY⟩ := id hM
  obtain ⟨iE, iR, iQ, iW, iY, hb9, hh⟩ := id hI
  have hb0 : b ≤ 1000000 := Nat.le_trans hb9 (by decide)
  have h64 := (iR.ok iE).le
  refine lv_aload_n hx hb dX7_size_0 rfl (lv_at hl 0 rfl) ?_
  refine lv_iload_n hx hb dX7_size_1 rfl (lv_at hl 1 rfl) ?_
  refine lv_aload_n hx hb dX7_size_2 rfl (lv_at hl 0 rfl) ?_
  refine m_get hx hb hts in_X7_size_RX7 hown hK hR 12 (by decide) (hts (.fieldLink RX7 81 "ArcheloftModel" "rows" "I") (by decide +kernel)) rfl (v := .int (S 12)) rfl dX7_size_3 ?_
  refine x_top (y := (nI (rN (sR M)))) (hRw.1) ?_
  refine k_ip (k_V (As := [.int x, .int (nI (rN (sR M)))]) (rest := []) ⟨hx, hb, hml, hown, hts⟩ hev hS (c_X7_isIn l hR (x)) (cwV 2 hts gX7_size_X7_isIn rfl rfl rfl (by decide +kernel) ⟨Nat.le_of_ble_eq_true rfl, Nat.le_of_ble_eq_true rfl⟩) (x_recv hK hR.1 rfl) rfl hl.1 (Nat.le_of_ble_eq_true rfl) dX7_size_6 (Nat.le_of_ble_eq_true rfl) (Nat.le_of_ble_eq_true rfl)) hS hnt hlk (fun _ _ h _ => h.elim) (Nat.le_of_ble_eq_true rfl) (Nat.le_of_ble_eq_true rfl) (fun rq1_ H1 locs1 hP hz1 hS => ?_)
  refine W.widen (k := 0) (n := 0) (Nat.le_refl _) (Nat.le_refl _) ?_
  obtain ⟨b1, hb1, erb1, hR⟩ := hP
  refine x_top (y := (bI b1)) (erb1) ?_
  refine y_bif_eq hx hb (tgt := 21) dX7_size_9 (by decide) (fun c9 => ?_) (fun c9 => ?_)
  · rw [c9] at hb1 hR
    have ho : oSize M x = oErr M 1 := if_neg (by rw [← hb1]; decide)
    refine lv_iconst (v := nI 0) hx hb dX7_size_21 (by decide) ?_
    exact r_i hx hb hrt9 hlk hS (Nat.le_of_ble_eq_true rfl) (Nat.le_of_ble_eq_true rfl) dX7_size_22 (by rw [ho]; exact PM.err (by decide) hR hM rfl)
  · rw [c9] at hb1 hR
    obtain ⟨j1, hj1, rfl⟩ := inB_of (by omega) hb1.symm
    have hl : lv_has ls 2 [(0, .ref g), (1, .int (nI j1))] := hl
    have ho : oSize M (nI j1) = oRet M (nI (rZ (sR M) j1)) := by unfold oSize; rw [ix_nI (by omega)]; exact if_pos hb1.symm
    refine lv_aload_n hx hb dX7_size_12 rfl (lv_at hl 0 rfl) ?_
    refine m_get hx hb hts in_X7_size_RX7 hown hK hR 10 (by decide) (hts (.fieldLink RX7 35 "ArcheloftModel" "size" "[I") (by decide +kernel)) rfl (v := .ref (g + 9)) rfl dX7_size_13 ?_
    refine lv_iload_n hx hb dX7_size_16 rfl (lv_at hl 1 rfl) ?_
    refine m_ld9 (i := j1) hx hb hK hR (by omega) dX7_size_17 ?_
    refine x_top (y := (nI (rZ (sR M) j1))) (by show Y 9 j1 = _; rw [hRw.2.2.2.1 j1 (by omega), if_pos hj1]) ?_
    refine lv_goto (tgt := 22) hx hb dX7_size_18 (by decide) ?_
    exact r_i hx hb hrt9 hlk hS (Nat.le_of_ble_eq_true rfl) (Nat.le_of_ble_eq_true rfl) dX7_size_22 (by rw [ho]; exact PM.ret hR hM rfl rfl)
set_option maxRecDepth 100000 in
theorem in_X7_entityAt_RX7 : ∀ w ∈ wsX70, w ∈ wsX7_entityAt := by decide +kernel
set_option maxHeartbeats 4000000 in
set_option maxRecDepth 100000 in
theorem c_X7_entityAt (l : Launch) {D : va_G} {T : Nat → ClassId} {dE mi : Nat} {g : Nat} {S : Nat → Int32} {Y : Nat → Nat → Int32} {H : Heap} (hR : RM D T g S Y H) {M : mSt} (hM : Rel S Y M) {b : Nat} (hI : Inv b M) (x y : Int32) : vx_Met l yX7_entityAt wsX7_entityAt (rmL 1 0 0) (PcE D T dE mi (AM g) H [.ref g, .int x, .int y]) (QI (AM g) (fun r H1 => PM D T g (oEntityAt M x y) r H1)) (XX (AM g) (XN)) 0 0 (AM g) := by
  refine entry (cc := cX7_entityAt) (maxL := 3) (ret := (some .int)) (by decide) rfl (Nat.le_of_ble_eq_true rfl) ?_
  intro p e s m args below meth c hx hb hrt9 hml hown hts hlk hnt hnm hev hS ls hl
  have hown : s.vm.findClass RX7 = some m.cls := hown
  have hK := hev.1
  have hl : lv_has ls 3 [(0, .ref g), (1, .int x), (2, .int y)] := hl
  obtain ⟨hT, hE, hRw, hQ, hW, hY⟩ := id hM
  obtain ⟨iE, iR, iQ, iW, iY, hb9, hh⟩ := id hI
  have hb0 : b ≤ 1000000 := Nat.le_trans hb9 (by decide)
  have h64 := (iR.ok iE).le
  refine lv_aload_n hx hb dX7_entityAt_0 rfl (lv_at hl 0 rfl) ?_
  refine lv_iload_n hx hb dX7_entityAt_1 rfl (lv_at hl 1 rfl) ?_
  refine lv_aload_n hx hb dX7_entityAt_2 rfl (lv_at hl 0 rfl) ?_
  refine m_get hx hb hts in_X7_entityAt_RX7 hown hK hR 12 (by decide) (hts (.fieldLink RX7 81 "ArcheloftModel" "rows" "I") (by decide +kernel)) rfl (v := .int (S 12)) rfl dX7_entityAt_3 ?_
  refine x_top (y := (nI (rN (sR M)))) (hRw.1) ?_
  refine k_ip (k_V (As := [.int x, .int (nI (rN (sR M)))]) (rest := []) ⟨hx, hb, hml, hown, hts⟩ hev hS (c_X7_isIn l hR (x)) (cwV 2 hts gX7_entityAt_X7_isIn rfl rfl rfl (by decide +kernel) ⟨Nat.le_of_ble_eq_true rfl, Nat.le_of_ble_eq_true rfl⟩) (x_recv hK hR.1 rfl) rfl hl.1 (Nat.le_of_ble_eq_true rfl) dX7_entityAt_6 (Nat.le_of_ble_eq_true rfl) (Nat.le_of_ble_eq_true rfl)) hS hnt hlk (fun _ _ h _ => h.elim) (Nat.le_of_ble_eq_true rfl) (Nat.le_of_ble_eq_true rfl) (fun rq1_ H1 locs1 hP hz1 hS => ?_)
  refine W.widen (k := 0) (n := 0) (Nat.le_refl _) (Nat.le_refl _) ?_
  obtain ⟨b1, hb1, erb1, hR⟩ := hP
  refine x_top (y := (bI b1)) (erb1) ?_
  refine y_bif_eq hx hb (tgt := 44) dX7_entityAt_9 (by decide) (fun c9 => ?_) (fun c9 => ?_)
  · rw [c9] at hb1 hR
    have ho : oEntityAt M x y = oErr M 1 := if_neg (fun z => by rw [← hb1] at z; exact nomatch z.1)
    refine lv_iconst (v := nI 0) hx hb dX7_entityAt_44 (by decide) ?_
    exact r_i hx hb hrt9 hlk hS (Nat.le_of_ble_eq_true rfl) (Nat.le_of_ble_eq_true rfl) dX7_entityAt_45 (by rw [ho]; exact PM.err (by decide) hR hM rfl)
  · rw [c9] at hb1 hR
    obtain ⟨j1, hj1, rfl⟩ := inB_of (by omega) hb1.symm
    have hl : lv_has ls 3 [(0, .ref g), (1, .int (nI j1)), (2, .int y)] := hl
    have hz32 := iR.2.2.2.2.2.2 j1 hj1
    refine lv_aload_n hx hb dX7_entityAt_12 rfl (lv_at hl 0 rfl) ?_
    refine lv_iload_n hx hb dX7_entityAt_13 rfl (lv_at hl 2 rfl) ?_
    refine lv_aload_n hx hb dX7_entityAt_14 rfl (lv_at hl 0 rfl) ?_
    refine m_get hx hb hts in_X7_entityAt_RX7 hown hK hR 10 (by decide) (hts (.fieldLink RX7 35 "ArcheloftModel" "size" "[I") (by decide +kernel)) rfl (v := .ref (g + 9)) rfl dX7_entityAt_15 ?_
    refine lv_iload_n hx hb dX7_entityAt_18 rfl (lv_at hl 1 rfl) ?_
    refine m_ld9 (i := j1) hx hb hK hR (by omega) dX7_entityAt_19 ?_
    refine x_top (y := (nI (rZ (sR M) j1))) (by show Y 9 j1 = _; rw [hRw.2.2.2.1 j1 (by omega), if_pos hj1]) ?_
    refine k_ip (k_V (As := [.int y, .int (nI (rZ (sR M) j1))]) (rest := []) ⟨hx, hb, hml, hown, hts⟩ hev hS (c_X7_isIn l hR (y)) (cwV 2 hts gX7_entityAt_X7_isIn rfl rfl rfl (by decide +kernel) ⟨Nat.le_of_ble_eq_true rfl, Nat.le_of_ble_eq_true rfl⟩) (x_recv hK hR.1 rfl) rfl hl.1 (Nat.le_of_ble_eq_true rfl) dX7_entityAt_20 (Nat.le_of_ble_eq_true rfl) (Nat.le_of_ble_eq_true rfl)) hS hnt hlk (fun _ _ h _ => h.elim) (Nat.le_of_ble_eq_true rfl) (Nat.le_of_ble_eq_true rfl) (fun rq2_ H2 locs2 hP hz2 hS => ?_)
    refine W.widen (k := 0) (n := 0) (Nat.le_refl _) (Nat.le_refl _) ?_
    obtain ⟨b2, hb2, erb2, hR⟩ := hP
    refine x_top (y := (bI b2)) (erb2) ?_
    refine y_bif_eq hx hb (tgt := 44) dX7_entityAt_23 (by decide) (fun c23 => ?_) (fun c23 => ?_)
    · rw [c23] at hb2 hR
      have ho : oEntityAt M (nI j1) y = oErr M 1 := if_neg (fun z => by have z2 := z.2; rw [ix_nI (by omega), ← hb2] at z2; exact nomatch z2)
      refine lv_iconst (v := nI 0) hx hb dX7_entityAt_44 (by decide) ?_
      exact r_i hx hb hrt9 hlk hS (Nat.le_of_ble_eq_true rfl) (Nat.le_of_ble_eq_true rfl) dX7_entityAt_45 (by rw [ho]; exact PM.err (by decide) hR hM rfl)
    · rw [c23] at hb2 hR
      obtain ⟨j2, hj2, rfl⟩ := inB_of (by omega) hb2.symm
      have hl : lv_has ls 3 [(0, .ref g), (1, .int (nI j1)), (2, .int (nI j2))] := hl
      have hm32 := (iR.ok iE).2.2.1 j1 j2 hj1 hj2
      have ho : oEntityAt M (nI j1) (nI j2) = oRet M (handle (sE M) (rM (sR M) j1 j2)) := by unfold oEntityAt; rw [ix_nI (by omega), ix_nI (by omega)]; exact if_pos ⟨hb1.symm, hb2.symm⟩
      refine lv_aload_n hx hb dX7_entityAt_26 rfl (lv_at hl 0 rfl) ?_
      refine lv_aload_n hx hb dX7_entityAt_27 rfl (lv_at hl 0 rfl) ?_
      refine m_get hx hb hts in_X7_entityAt_RX7 hown hK hR 11 (by decide) (hts (.fieldLink RX7 38 "ArcheloftModel" "places" "[I") (by decide +kernel)) rfl (v := .ref (g + 10)) rfl dX7_entityAt_28 ?_
      refine lv_bipush (v := nI 32) hx hb dX7_entityAt_31 (by decide) ?_
      refine lv_iload_n hx hb dX7_entityAt_33 rfl (lv_at hl 1 rfl) ?_
      refine y_imul hx hb dX7_entityAt_34 ?_
      refine lv_iload_n hx hb dX7_entityAt_35 rfl (lv_at hl 2 rfl) ?_
      refine y_iadd hx hb dX7_entityAt_36 ?_
      refine m_ld10 (i := (32 * j1) + j2) hx hb hK hR (by omega) dX7_entityAt_37 ?_
      refine x_top (y := (nI (rM (sR M) j1 j2))) (hRw.2.2.2.2 j1 j2 hj1 hj2) ?_
      refine k_ip (k_V (As := [.int (nI (rM (sR M) j1 j2))]) (rest := []) ⟨hx, hb, hml, hown, hts⟩ hev hS (c_X7_handleOf l hR hE hm32) (cwV 1 hts gX7_entityAt_X7_handleOf rfl rfl rfl (by decide +kernel) ⟨Nat.le_of_ble_eq_true rfl, Nat.le_of_ble_eq_true rfl⟩) (x_recv hK hR.1 rfl) rfl hl.1 (Nat.le_of_ble_eq_true rfl) dX7_entityAt_38 (Nat.le_of_ble_eq_true rfl) (Nat.le_of_ble_eq_true rfl)) hS hnt hlk (fun _ _ h _ => h.elim) (Nat.le_of_ble_eq_true rfl) (Nat.le_of_ble_eq_true rfl) (fun rq3_ H3 locs3 hP hz3 hS => ?_)
      refine W.widen (k := 0) (n := 0) (Nat.le_refl _) (Nat.le_refl _) ?_
      have hR : RM D T g (upd (upd S 0 (bI (!true))) 0 (bI (!true))) Y H3 := by rw [hP.1]; exact hR
      have er4 := hP.2
      refine lv_goto (tgt := 45) hx hb dX7_entityAt_41 (by decide) ?_
      exact r_i hx hb hrt9 hlk hS (Nat.le_of_ble_eq_true rfl) (Nat.le_of_ble_eq_true rfl) dX7_entityAt_45 (by rw [ho]; exact PM.ret hR hM rfl er4)

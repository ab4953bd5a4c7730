set_option maxRecDepth 100000 in
theorem in_X7_does_RX7 : ∀ w ∈ wsX70, w ∈ wsX7_does := by decide +kernel
set_option maxHeartbeats 4000000 in
set_option maxRecDepth 100000 in
theorem c_X7_does (l : Launch) {D : va_G} {T : Nat → ClassId} {dE mi : Nat} {g : Nat} {S : Nat → Int32} {Y : Nat → Nat → Int32} {H : Heap} (hR : RM D T g S Y H) {E : mE} (hE : RelE Y E) {R : mR} (hr : RelR S Y R) (iE : InvE E) (iR : InvR E R) {b : Nat} (hb0 : b ≤ 1000000) (hh : ∀ k, mHad E k ≤ b) {i w : Nat} (hi : i < 20) (hw : w < 4) (hc : Y 15 i = nI w) : vx_Met l yX7_does wsX7_does (rmL 3 0 0) (PcE D T dE mi (AM g) H [.ref g, .int (nI i)]) (QI (AM g) (fun r H1 => r = bI (doC E R (S 1) (nI w) (Y 16 i) (Y 17 i) (Y 18 i)).1 ∧ ∃ S1 Y1, RM D T g S1 Y1 H1 ∧ RelE Y1 (doC E R (S 1) (nI w) (Y 16 i) (Y 17 i) (Y 18 i)).2.1 ∧ RelR S1 Y1 (doC E R (S 1) (nI w) (Y 16 i) (Y 17 i) (Y 18 i)).2.2 ∧ (∀ j, j ≠ 12 → S1 j = S j) ∧ ∀ j, 11 ≤ j → j ≠ 22 → Y1 j = Y j)) (XX (AM g) (XN)) 0 0 (AM g) := by
  refine entry (cc := cX7_does) (maxL := 3) (ret := (some .boolean)) (by decide) rfl (Nat.le_of_ble_eq_true rfl) ?_
  intro p e s m args below meth c hx hb hrt9 hml hown hts hlk hnt hnm hev hS ls hl
  have hown : s.vm.findClass RX7 = some m.cls := hown
  have hK := hev.1
  have hl : lv_has ls 3 [(0, .ref g), (1, .int (nI i))] := hl
  refine lv_aload_n hx hb dX7_does_0 rfl (lv_at hl 0 rfl) ?_
  refine lv_aload_n hx hb dX7_does_1 rfl (lv_at hl 0 rfl) ?_
  refine m_get hx hb hts in_X7_does_RX7 hown hK hR 22 (by decide) (hts (.fieldLink RX7 56 "ArcheloftModel" "toHandle" "[I") (by decide +kernel)) rfl (v := .ref (g + 16)) rfl dX7_does_2 ?_
  refine lv_iload_n hx hb dX7_does_5 rfl (lv_at hl 1 rfl) ?_
  refine m_ld16 (i := i) hx hb hK hR (by omega) dX7_does_6 ?_
  refine k_ip (k_V (As := [.int (Y 16 i)]) (rest := []) ⟨hx, hb, hml, hown, hts⟩ hev hS (c_X7_slotOf l hR hE hb0 hh (Y 16 i)) (cwV 1 hts gX7_does_X7_slotOf rfl rfl rfl (by decide +kernel) ⟨Nat.le_of_ble_eq_true rfl, Nat.le_of_ble_eq_true rfl⟩) (x_recv hK hR.1 rfl) rfl hl.1 (Nat.le_of_ble_eq_true rfl) dX7_does_7 (Nat.le_of_ble_eq_true rfl) (Nat.le_of_ble_eq_true rfl)) hS hnt hlk (fun _ _ h _ => h.elim) (Nat.le_of_ble_eq_true rfl) (Nat.le_of_ble_eq_true rfl) (fun rq1_ H1 locs1 hP hz1 hS => ?_)
  refine W.widen (k := 0) (n := 0) (Nat.le_refl _) (Nat.le_refl _) ?_
  have hR : RM D T g S Y H1 := by rw [hP.1]; exact hR
  have er := hP.2
  rcases hlk9 : look (E) (Y 16 i) with _ | sl
  · refine x_top (y := ((-1))) (by rw [er, hlk9]; rfl) ?_
    refine lv_istore_n (lv' := [(2, .int ((-1))), (0, .ref g), (1, .int (nI i))]) hx hb dX7_does_10 rfl hl (by decide) rfl (fun ls hl => ?_)
    refine lv_aload_n hx hb dX7_does_11 rfl (lv_at hl 1 rfl) ?_
    refine m_get hx hb hts in_X7_does_RX7 hown hK hR 21 (by decide) (hts (.fieldLink RX7 53 "ArcheloftModel" "command" "[I") (by decide +kernel)) rfl (v := .ref (g + 15)) rfl dX7_does_12 ?_
    refine lv_iload_n hx hb dX7_does_15 rfl (lv_at hl 2 rfl) ?_
    refine m_ld15 (i := i) hx hb hK hR (by omega) dX7_does_16 ?_
    refine x_top (y := (nI w)) (hc) ?_
    refine lv_iconst (v := nI 3) hx hb dX7_does_17 (by decide) ?_
    refine y_icmp_ne hx hb (by omega) (Nat.le_of_ble_eq_true rfl) (tgt := 66) dX7_does_18 (by decide) (fun c18 => ?_) (fun c18 => ?_)
    · refine lv_iload_n hx hb dX7_does_66 rfl (lv_at hl 0 rfl) ?_
      refine lv_iconst (v := -1) hx hb dX7_does_67 (by decide) ?_
      refine lv_icmp_eq (tgt := 93) hx hb dX7_does_68 (by decide) (fun c68 => ?_) (fun c68 => ?_)
      · have ho : (doC E R (S 1) (nI w) (Y 16 i) (Y 17 i) (Y 18 i)) = (false, E, R) := doC_n hw c18 hlk9
        refine lv_iconst (v := nI 0) hx hb dX7_does_93 (by decide) ?_
        exact r_z hx hb hrt9 hlk hS (Nat.le_of_ble_eq_true rfl) (Nat.le_of_ble_eq_true rfl) dX7_does_94 rfl (⟨by rw [ho]; rfl, S, Y, hR, by rw [ho]; exact hE, by rw [ho]; exact hr, fun _ _ => rfl, fun _ _ _ => rfl⟩)
      · exact absurd rfl c68
    · refine lv_aload_n hx hb dX7_does_21 rfl (lv_at hl 1 rfl) ?_
      refine k_ip (k_V (As := []) (rest := []) ⟨hx, hb, hml, hown, hts⟩ hev hS (c_X7_freeSlot l hR hE) (cwV 0 hts gX7_does_X7_freeSlot rfl rfl rfl (by decide +kernel) ⟨Nat.le_of_ble_eq_true rfl, Nat.le_of_ble_eq_true rfl⟩) (x_recv hK hR.1 rfl) rfl hl.1 (Nat.le_of_ble_eq_true rfl) dX7_does_22 (Nat.le_of_ble_eq_true rfl) (Nat.le_of_ble_eq_true rfl)) hS hnt hlk (fun _ _ h _ => h.elim) (Nat.le_of_ble_eq_true rfl) (Nat.le_of_ble_eq_true rfl) (fun rq2_ H2 locs2 hP hz2 hS => ?_)
      refine W.widen (k := 0) (n := 0) (Nat.le_refl _) (Nat.le_refl _) ?_
      have hR : RM D T g S Y H2 := by rw [hP.1]; exact hR
      have er1 := hP.2
      refine x_top (y := (nI (free E))) (er1) ?_
      have hf32 : free E ≤ 32 := by obtain ⟨f, e1, e2, -⟩ := free_ex E; omega
      refine lv_bipush (v := nI 32) hx hb dX7_does_25 (by decide) ?_
      refine y_icmp_eq hx hb (by omega) (Nat.le_of_ble_eq_true rfl) (tgt := 42) dX7_does_27 (by decide) (fun c27 => ?_) (fun c27 => ?_)
      · have ho : (doC E R (S 1) (nI w) (Y 16 i) (Y 17 i) (Y 18 i)) = (false, E, R) := by rw [c18]; exact doC_3a (Or.inl c27)
        refine lv_iconst (v := nI 0) hx hb dX7_does_42 (by decide) ?_
        exact r_z hx hb hrt9 hlk hS (Nat.le_of_ble_eq_true rfl) (Nat.le_of_ble_eq_true rfl) dX7_does_43 rfl (⟨by rw [ho]; rfl, S, Y, hR, by rw [ho]; exact hE, by rw [ho]; exact hr, fun _ _ => rfl, fun _ _ _ => rfl⟩)
      · obtain ⟨hf1, hf2⟩ := free_lt c27
        obtain ⟨iE2, iR2⟩ := makes_inv iE iR hf2 hf1
        refine lv_aload_n hx hb dX7_does_30 rfl (lv_at hl 1 rfl) ?_
        refine m_get hx hb hts in_X7_does_RX7 hown hK hR 23 (by decide) (hts (.fieldLink RX7 59 "ArcheloftModel" "toKind" "[I") (by decide +kernel)) rfl (v := .ref (g + 17)) rfl dX7_does_31 ?_
        refine lv_iload_n hx hb dX7_does_34 rfl (lv_at hl 2 rfl) ?_
        refine m_ld17 (i := i) hx hb hK hR (by omega) dX7_does_35 ?_
        refine k_ip (k_S (As := [.int (Y 17 i)]) (rest := []) ⟨hx, hb, hml, hown, hts⟩ hev hS (c_X7_isKind l (A := AM g) (H := H2) (Y 17 i)) (va_cwS 1 hts gX7_does_X7_isKind rfl rfl rfl (by decide +kernel) ⟨Nat.le_of_ble_eq_true rfl, Nat.le_of_ble_eq_true rfl⟩) rfl hl.1 (Nat.le_of_ble_eq_true rfl) dX7_does_36 (Nat.le_of_ble_eq_true rfl) (Nat.le_of_ble_eq_true rfl)) hS hnt hlk (fun _ _ h _ => h.elim) (Nat.le_of_ble_eq_true rfl) (Nat.le_of_ble_eq_true rfl) (fun rq3_ H3 locs3 hP hz3 hS => ?_)
        refine W.widen (k := 0) (n := 0) (Nat.le_refl _) (Nat.le_refl _) ?_
        have hR : RM D T g S Y H3 := by rw [hP.1]; exact hR
        have er2 := hP.2
        refine x_top (y := (bI (isK (Y 17 i)))) (er2) ?_
        refine y_bif_ne hx hb (tgt := 44) dX7_does_39 (by decide) (fun c39 => ?_) (fun c39 => ?_)
        · obtain ⟨k6, hk6, hkk⟩ := isK_of c39
          have hkT : isK (nI k6) = true := by rw [← hkk]; exact c39
          have ho : (doC E R (S 1) (nI w) (Y 16 i) (Y 17 i) (Y 18 i)) = (true, addsE (makesE E (free E)) (free E) k6 (Y 18 i) (S 1), addsR (makesE E (free E)) (rowAdd R 0 (free E)) (free E) k6) := by rw [c18, hkk]; exact doC_3b hk6 c27 hkT
          refine lv_aload_n hx hb dX7_does_44 rfl (lv_at hl 1 rfl) ?_
          refine lv_aload_n hx hb dX7_does_45 rfl (lv_at hl 1 rfl) ?_
          refine k_ip (k_V (As := []) (rest := [.ref g]) ⟨hx, hb, hml, hown, hts⟩ hev hS (c_X7_makes l hR hE hr iE iR hf1) (cwV 0 hts gX7_does_X7_makes rfl rfl rfl (by decide +kernel) ⟨Nat.le_of_ble_eq_true rfl, Nat.le_of_ble_eq_true rfl⟩) (x_recv hK hR.1 rfl) rfl hl.1 (Nat.le_of_ble_eq_true rfl) dX7_does_46 (Nat.le_of_ble_eq_true rfl) (Nat.le_of_ble_eq_true rfl)) hS hnt hlk (fun _ _ h _ => h.elim) (Nat.le_of_ble_eq_true rfl) (Nat.le_of_ble_eq_true rfl) (fun rq4_ H4 locs4 hP hz4 hS => ?_)
          refine W.widen (k := 0) (n := 0) (Nat.le_refl _) (Nat.le_refl _) ?_
          obtain ⟨er2, S2, Y2, hR, hE2, hr2, fs2, fy2⟩ := hP
          refine x_top (y := (nI (free E))) (er2) ?_
          refine lv_aload_n hx hb dX7_does_49 rfl (lv_at hl 1 rfl) ?_
          refine m_get hx hb hts in_X7_does_RX7 hown hK hR 23 (by decide) (hts (.fieldLink RX7 59 "ArcheloftModel" "toKind" "[I") (by decide +kernel)) rfl (v := .ref (g + 17)) rfl dX7_does_50 ?_
          refine lv_iload_n hx hb dX7_does_53 rfl (lv_at hl 2 rfl) ?_
          refine m_ld17 (i := i) hx hb hK hR (by omega) dX7_does_54 ?_
          refine x_top (y := (nI k6)) ((congrFun (fy2 17 (by decide) (by decide) (by decide) (by decide) (by decide) (by decide) (by decide)) i).trans hkk) ?_
          refine lv_aload_n hx hb dX7_does_55 rfl (lv_at hl 1 rfl) ?_
          refine m_get hx hb hts in_X7_does_RX7 hown hK hR 24 (by decide) (hts (.fieldLink RX7 62 "ArcheloftModel" "toValue" "[I") (by decide +kernel)) rfl (v := .ref (g + 18)) rfl dX7_does_56 ?_
          refine lv_iload_n hx hb dX7_does_59 rfl (lv_at hl 2 rfl) ?_
          refine m_ld18 (i := i) hx hb hK hR (by omega) dX7_does_60 ?_
          refine k_vp (k_V (As := [.int (nI (free E)), .int (nI k6), .int (Y2 18 i)]) (rest := []) ⟨hx, hb, hml, hown, hts⟩ hev hS (c_X7_adds l hR hE2 hr2 iE2 iR2 makes_al hk6 (Y2 18 i)) (cwV 3 hts gX7_does_X7_adds rfl rfl rfl (by decide +kernel) ⟨Nat.le_of_ble_eq_true rfl, Nat.le_of_ble_eq_true rfl⟩) (x_recv hK hR.1 rfl) rfl hl.1 (Nat.le_of_ble_eq_true rfl) dX7_does_61 (Nat.le_of_ble_eq_true rfl) (Nat.le_of_ble_eq_true rfl)) hS hnt hlk (fun _ _ h _ => h.elim) (Nat.le_of_ble_eq_true rfl) (Nat.le_of_ble_eq_true rfl) (fun H5 locs5 hP hz5 hS => ?_)
          refine W.widen (k := 0) (n := 0) (Nat.le_refl _) (Nat.le_refl _) ?_
          obtain ⟨S3, Y3, hR, hE3, hr3, fs3, fy3⟩ := hP
          have e18 : Y2 18 = Y 18 := fy2 18 (by decide) (by decide) (by decide) (by decide) (by decide) (by decide) (by decide)
          have e1 : S2 1 = S 1 := fs2 1 (by decide)
          rw [e18, e1] at hE3
          refine lv_iconst (v := nI 1) hx hb dX7_does_64 (by decide) ?_
          exact r_z hx hb hrt9 hlk hS (Nat.le_of_ble_eq_true rfl) (Nat.le_of_ble_eq_true rfl) dX7_does_65 rfl (⟨by rw [ho]; rfl, S3, Y3, hR, by rw [ho]; exact hE3, by rw [ho]; exact hr3, fun j hj => (fs3 j hj).trans (fs2 j hj), fun j h1 h2 => (fy3 j (by omega) (by omega) (by omega) (by omega) (by omega) (by omega) (by omega)).trans (fy2 j (by omega) (by omega) (by omega) (by omega) (by omega) (by omega) (by omega))⟩)
        · have ho : (doC E R (S 1) (nI w) (Y 16 i) (Y 17 i) (Y 18 i)) = (false, E, R) := by rw [c18]; exact doC_3a (Or.inr c39)
          refine lv_iconst (v := nI 0) hx hb dX7_does_42 (by decide) ?_
          exact r_z hx hb hrt9 hlk hS (Nat.le_of_ble_eq_true rfl) (Nat.le_of_ble_eq_true rfl) dX7_does_43 rfl (⟨by rw [ho]; rfl, S, Y, hR, by rw [ho]; exact hE, by rw [ho]; exact hr, fun _ _ => rfl, fun _ _ _ => rfl⟩)
  · refine x_top (y := (nI sl)) (by rw [er, hlk9]; rfl) ?_
    obtain ⟨hs32, hsal, hsh⟩ := look_some hlk9
    refine lv_istore_n (lv' := [(2, .int (nI sl)), (0, .ref g), (1, .int (nI i))]) hx hb dX7_does_10 rfl hl (by decide) rfl (fun ls hl => ?_)
    refine lv_aload_n hx hb dX7_does_11 rfl (lv_at hl 1 rfl) ?_
    refine m_get hx hb hts in_X7_does_RX7 hown hK hR 21 (by decide) (hts (.fieldLink RX7 53 "ArcheloftModel" "command" "[I") (by decide +kernel)) rfl (v := .ref (g + 15)) rfl dX7_does_12 ?_
    refine lv_iload_n hx hb dX7_does_15 rfl (lv_at hl 2 rfl) ?_
    refine m_ld15 (i := i) hx hb hK hR (by omega) dX7_does_16 ?_
    refine x_top (y := (nI w)) (hc) ?_
    refine lv_iconst (v := nI 3) hx hb dX7_does_17 (by decide) ?_
    refine y_icmp_ne hx hb (by omega) (Nat.le_of_ble_eq_true rfl) (tgt := 66) dX7_does_18 (by decide) (fun c18 => ?_) (fun c18 => ?_)
    · refine lv_iload_n hx hb dX7_does_66 rfl (lv_at hl 0 rfl) ?_
      refine lv_iconst (v := -1) hx hb dX7_does_67 (by decide) ?_
      refine lv_icmp_eq (tgt := 93) hx hb dX7_does_68 (by decide) (fun c68 => ?_) (fun c68 => ?_)
      · exact absurd c68 (nI_m1 (by omega))
      · refine lv_aload_n hx hb dX7_does_71 rfl (lv_at hl 1 rfl) ?_
        refine m_get hx hb hts in_X7_does_RX7 hown hK hR 21 (by decide) (hts (.fieldLink RX7 53 "ArcheloftModel" "command" "[I") (by decide +kernel)) rfl (v := .ref (g + 15)) rfl dX7_does_72 ?_
        refine lv_iload_n hx hb dX7_does_75 rfl (lv_at hl 2 rfl) ?_
        refine m_ld15 (i := i) hx hb hK hR (by omega) dX7_does_76 ?_
        refine x_top (y := (nI w)) (hc) ?_
        refine lv_iconst (v := nI 2) hx hb dX7_does_77 (by decide) ?_
        refine y_icmp_eq hx hb (by omega) (Nat.le_of_ble_eq_true rfl) (tgt := 95) dX7_does_78 (by decide) (fun c78 => ?_) (fun c78 => ?_)
        · refine lv_aload_n hx hb dX7_does_95 rfl (lv_at hl 1 rfl) ?_
          refine m_get hx hb hts in_X7_does_RX7 hown hK hR 21 (by decide) (hts (.fieldLink RX7 53 "ArcheloftModel" "command" "[I") (by decide +kernel)) rfl (v := .ref (g + 15)) rfl dX7_does_96 ?_
          refine lv_iload_n hx hb dX7_does_99 rfl (lv_at hl 2 rfl) ?_
          refine m_ld15 (i := i) hx hb hK hR (by omega) dX7_does_100 ?_
          refine x_top (y := (nI w)) (hc) ?_
          refine lv_iconst (v := nI 2) hx hb dX7_does_101 (by decide) ?_
          refine y_icmp_ne hx hb (by omega) (Nat.le_of_ble_eq_true rfl) (tgt := 113) dX7_does_102 (by decide) (fun c102 => ?_) (fun c102 => ?_)
          · exact absurd c78 c102
          · have ho : (doC E R (S 1) (nI w) (Y 16 i) (Y 17 i) (Y 18 i)) = (true, (ends E R sl).1, (ends E R sl).2.1) := by rw [c102]; exact doC_2 hlk9
            refine lv_aload_n hx hb dX7_does_105 rfl (lv_at hl 1 rfl) ?_
            refine lv_iload_n hx hb dX7_does_106 rfl (lv_at hl 0 rfl) ?_
            refine k_ip (k_V (As := [.int (nI sl)]) (rest := []) ⟨hx, hb, hml, hown, hts⟩ hev hS (c_X7_ends l hR hE hr iE iR hsal) (cwV 1 hts gX7_does_X7_ends rfl rfl rfl (by decide +kernel) ⟨Nat.le_of_ble_eq_true rfl, Nat.le_of_ble_eq_true rfl⟩) (x_recv hK hR.1 rfl) rfl hl.1 (Nat.le_of_ble_eq_true rfl) dX7_does_107 (Nat.le_of_ble_eq_true rfl) (Nat.le_of_ble_eq_true rfl)) hS hnt hlk (fun _ _ h _ => h.elim) (Nat.le_of_ble_eq_true rfl) (Nat.le_of_ble_eq_true rfl) (fun rq6_ H6 locs6 hP hz6 hS => ?_)
            refine W.widen (k := 0) (n := 0) (Nat.le_refl _) (Nat.le_refl _) ?_
            obtain ⟨er2, Y2, hR, hE2, hr2, fy2⟩ := hP
            refine lv_pop hx hb dX7_does_110 rfl ?_
            refine lv_iconst (v := nI 1) hx hb dX7_does_111 (by decide) ?_
            exact r_z hx hb hrt9 hlk hS (Nat.le_of_ble_eq_true rfl) (Nat.le_of_ble_eq_true rfl) dX7_does_112 rfl (⟨by rw [ho]; rfl, S, Y2, hR, by rw [ho]; exact hE2, by rw [ho]; exact hr2, fun _ _ => rfl, fy2⟩)
        · refine lv_aload_n hx hb dX7_does_81 rfl (lv_at hl 1 rfl) ?_
          refine m_get hx hb hts in_X7_does_RX7 hown hK hR 23 (by decide) (hts (.fieldLink RX7 59 "ArcheloftModel" "toKind" "[I") (by decide +kernel)) rfl (v := .ref (g + 17)) rfl dX7_does_82 ?_
          refine lv_iload_n hx hb dX7_does_85 rfl (lv_at hl 2 rfl) ?_
          refine m_ld17 (i := i) hx hb hK hR (by omega) dX7_does_86 ?_
          refine k_ip (k_S (As := [.int (Y 17 i)]) (rest := []) ⟨hx, hb, hml, hown, hts⟩ hev hS (c_X7_isKind l (A := AM g) (H := H1) (Y 17 i)) (va_cwS 1 hts gX7_does_X7_isKind rfl rfl rfl (by decide +kernel) ⟨Nat.le_of_ble_eq_true rfl, Nat.le_of_ble_eq_true rfl⟩) rfl hl.1 (Nat.le_of_ble_eq_true rfl) dX7_does_87 (Nat.le_of_ble_eq_true rfl) (Nat.le_of_ble_eq_true rfl)) hS hnt hlk (fun _ _ h _ => h.elim) (Nat.le_of_ble_eq_true rfl) (Nat.le_of_ble_eq_true rfl) (fun rq7_ H7 locs7 hP hz7 hS => ?_)
          refine W.widen (k := 0) (n := 0) (Nat.le_refl _) (Nat.le_refl _) ?_
          have hR : RM D T g S Y H7 := by rw [hP.1]; exact hR
          have er2 := hP.2
          refine x_top (y := (bI (isK (Y 17 i)))) (er2) ?_
          refine y_bif_ne hx hb (tgt := 95) dX7_does_90 (by decide) (fun c90 => ?_) (fun c90 => ?_)
          · obtain ⟨k6, hk6, hkk⟩ := isK_of c90
            have hkT : isK (nI k6) = true := by rw [← hkk]; exact c90
            refine lv_aload_n hx hb dX7_does_95 rfl (lv_at hl 1 rfl) ?_
            refine m_get hx hb hts in_X7_does_RX7 hown hK hR 21 (by decide) (hts (.fieldLink RX7 53 "ArcheloftModel" "command" "[I") (by decide +kernel)) rfl (v := .ref (g + 15)) rfl dX7_does_96 ?_
            refine lv_iload_n hx hb dX7_does_99 rfl (lv_at hl 2 rfl) ?_
            refine m_ld15 (i := i) hx hb hK hR (by omega) dX7_does_100 ?_
            refine x_top (y := (nI w)) (hc) ?_
            refine lv_iconst (v := nI 2) hx hb dX7_does_101 (by decide) ?_
            refine y_icmp_ne hx hb (by omega) (Nat.le_of_ble_eq_true rfl) (tgt := 113) dX7_does_102 (by decide) (fun c102 => ?_) (fun c102 => ?_)
            · refine lv_aload_n hx hb dX7_does_113 rfl (lv_at hl 1 rfl) ?_
              refine lv_iload_n hx hb dX7_does_114 rfl (lv_at hl 0 rfl) ?_
              refine lv_aload_n hx hb dX7_does_115 rfl (lv_at hl 1 rfl) ?_
              refine m_get hx hb hts in_X7_does_RX7 hown hK hR 23 (by decide) (hts (.fieldLink RX7 59 "ArcheloftModel" "toKind" "[I") (by decide +kernel)) rfl (v := .ref (g + 17)) rfl dX7_does_116 ?_
              refine lv_iload_n hx hb dX7_does_119 rfl (lv_at hl 2 rfl) ?_
              refine m_ld17 (i := i) hx hb hK hR (by omega) dX7_does_120 ?_
              refine x_top (y := (nI k6)) (hkk) ?_
              refine k_ip (k_V (As := [.int (nI sl), .int (nI k6)]) (rest := []) ⟨hx, hb, hml, hown, hts⟩ hev hS (c_X7_has l hR hs32 (i := k6)) (cwV 2 hts gX7_does_X7_has rfl rfl rfl (by decide +kernel) ⟨Nat.le_of_ble_eq_true rfl, Nat.le_of_ble_eq_true rfl⟩) (x_recv hK hR.1 rfl) rfl hl.1 (Nat.le_of_ble_eq_true rfl) dX7_does_121 (Nat.le_of_ble_eq_true rfl) (Nat.le_of_ble_eq_true rfl)) hS hnt hlk (fun _ _ h _ => h.elim) (Nat.le_of_ble_eq_true rfl) (Nat.le_of_ble_eq_true rfl) (fun rq8_ H8 locs8 hP hz8 hS => ?_)
              refine W.widen (k := 0) (n := 0) (Nat.le_refl _) (Nat.le_refl _) ?_
              have hR : RM D T g S Y H8 := by rw [hP.1]; exact hR
              have er3 := hP.2
              cases hbt : bitS (mKd E sl) k6
              · refine x_top (y := (nI 0)) (by rw [er3, hE.2.2.1 sl hs32 hsal, hasR_nI (iE.1 sl) hk6, hbt]; rfl) ?_
                refine lv_aload_n hx hb dX7_does_124 rfl (lv_at hl 1 rfl) ?_
                refine m_get hx hb hts in_X7_does_RX7 hown hK hR 21 (by decide) (hts (.fieldLink RX7 53 "ArcheloftModel" "command" "[I") (by decide +kernel)) rfl (v := .ref (g + 15)) rfl dX7_does_125 ?_
                refine lv_iload_n hx hb dX7_does_128 rfl (lv_at hl 2 rfl) ?_
                refine m_ld15 (i := i) hx hb hK hR (by omega) dX7_does_129 ?_
                refine x_top (y := (nI w)) (hc) ?_
                refine y_if_ne hx hb (by omega) (tgt := 137) dX7_does_130 (by decide) (fun c130 => ?_) (fun c130 => ?_)
                · refine lv_iconst (v := nI 0) hx hb dX7_does_137 (by decide) ?_
                  refine y_icmp_ne hx hb (by decide) (by decide) (tgt := 143) dX7_does_138 (by decide) (fun c138 => ?_) (fun c138 => ?_)
                  · exact absurd c138 (by decide)
                  · have ho : (doC E R (S 1) (nI w) (Y 16 i) (Y 17 i) (Y 18 i)) = (false, E, R) := by rw [hkk]; exact (doC_1 hw c18 c78 c130 hk6 hlk9 hkT).trans (if_pos hbt)
                    refine lv_iconst (v := nI 0) hx hb dX7_does_141 (by decide) ?_
                    exact r_z hx hb hrt9 hlk hS (Nat.le_of_ble_eq_true rfl) (Nat.le_of_ble_eq_true rfl) dX7_does_142 rfl (⟨by rw [ho]; rfl, S, Y, hR, by rw [ho]; exact hE, by rw [ho]; exact hr, fun _ _ => rfl, fun _ _ _ => rfl⟩)
                · refine lv_iconst (v := nI 1) hx hb dX7_does_133 (by decide) ?_
                  refine lv_goto (tgt := 138) hx hb dX7_does_134 (by decide) ?_
                  refine y_icmp_ne hx hb (by decide) (by decide) (tgt := 143) dX7_does_138 (by decide) (fun c138 => ?_) (fun c138 => ?_)
                  · refine lv_aload_n hx hb dX7_does_143 rfl (lv_at hl 1 rfl) ?_
                    refine m_get hx hb hts in_X7_does_RX7 hown hK hR 21 (by decide) (hts (.fieldLink RX7 53 "ArcheloftModel" "command" "[I") (by decide +kernel)) rfl (v := .ref (g + 15)) rfl dX7_does_144 ?_
                    refine lv_iload_n hx hb dX7_does_147 rfl (lv_at hl 2 rfl) ?_
                    refine m_ld15 (i := i) hx hb hK hR (by omega) dX7_does_148 ?_
                    refine x_top (y := (nI w)) (hc) ?_
                    refine y_if_ne hx hb (by omega) (tgt := 172) dX7_does_149 (by decide) (fun c149 => ?_) (fun c149 => ?_)
                    · exact absurd c130 c149
                    · have ho : (doC E R (S 1) (nI w) (Y 16 i) (Y 17 i) (Y 18 i)) = (true, addsE E sl k6 (Y 18 i) (S 1), addsR E R sl k6) := by rw [c149, hkk]; exact (doC_0 hk6 hlk9 hkT).trans (if_neg (by rw [hbt]; decide))
                      refine lv_aload_n hx hb dX7_does_152 rfl (lv_at hl 1 rfl) ?_
                      refine lv_iload_n hx hb dX7_does_153 rfl (lv_at hl 0 rfl) ?_
                      refine lv_aload_n hx hb dX7_does_154 rfl (lv_at hl 1 rfl) ?_
                      refine m_get hx hb hts in_X7_does_RX7 hown hK hR 23 (by decide) (hts (.fieldLink RX7 59 "ArcheloftModel" "toKind" "[I") (by decide +kernel)) rfl (v := .ref (g + 17)) rfl dX7_does_155 ?_
                      refine lv_iload_n hx hb dX7_does_158 rfl (lv_at hl 2 rfl) ?_
                      refine m_ld17 (i := i) hx hb hK hR (by omega) dX7_does_159 ?_
                      refine x_top (y := (nI k6)) (hkk) ?_
                      refine lv_aload_n hx hb dX7_does_160 rfl (lv_at hl 1 rfl) ?_
                      refine m_get hx hb hts in_X7_does_RX7 hown hK hR 24 (by decide) (hts (.fieldLink RX7 62 "ArcheloftModel" "toValue" "[I") (by decide +kernel)) rfl (v := .ref (g + 18)) rfl dX7_does_161 ?_
                      refine lv_iload_n hx hb dX7_does_164 rfl (lv_at hl 2 rfl) ?_
                      refine m_ld18 (i := i) hx hb hK hR (by omega) dX7_does_165 ?_
                      refine k_vp (k_V (As := [.int (nI sl), .int (nI k6), .int (Y 18 i)]) (rest := []) ⟨hx, hb, hml, hown, hts⟩ hev hS (c_X7_adds l hR hE hr iE iR hsal hk6 (Y 18 i)) (cwV 3 hts gX7_does_X7_adds rfl rfl rfl (by decide +kernel) ⟨Nat.le_of_ble_eq_true rfl, Nat.le_of_ble_eq_true rfl⟩) (x_recv hK hR.1 rfl) rfl hl.1 (Nat.le_of_ble_eq_true rfl) dX7_does_166 (Nat.le_of_ble_eq_true rfl) (Nat.le_of_ble_eq_true rfl)) hS hnt hlk (fun _ _ h _ => h.elim) (Nat.le_of_ble_eq_true rfl) (Nat.le_of_ble_eq_true rfl) (fun H9 locs9 hP hz9 hS => ?_)
                      refine W.widen (k := 0) (n := 0) (Nat.le_refl _) (Nat.le_refl _) ?_
                      obtain ⟨S2, Y2, hR, hE2, hr2, fs2, fy2⟩ := hP
                      refine lv_goto (tgt := 194) hx hb dX7_does_169 (by decide) ?_
                      refine lv_iconst (v := nI 1) hx hb dX7_does_194 (by decide) ?_
                      exact r_z hx hb hrt9 hlk hS (Nat.le_of_ble_eq_true rfl) (Nat.le_of_ble_eq_true rfl) dX7_does_195 rfl (⟨by rw [ho]; rfl, S2, Y2, hR, by rw [ho]; exact hE2, by rw [ho]; exact hr2, fs2, fun j h1 h2 => fy2 j (by omega) (by omega) (by omega) (by omega) (by omega) (by omega) (by omega)⟩)
                  · exact absurd c138 (by decide)
              · refine x_top (y := (nI 1)) (by rw [er3, hE.2.2.1 sl hs32 hsal, hasR_nI (iE.1 sl) hk6, hbt]; rfl) ?_
                refine lv_aload_n hx hb dX7_does_124 rfl (lv_at hl 1 rfl) ?_
                refine m_get hx hb hts in_X7_does_RX7 hown hK hR 21 (by decide) (hts (.fieldLink RX7 53 "ArcheloftModel" "command" "[I") (by decide +kernel)) rfl (v := .ref (g + 15)) rfl dX7_does_125 ?_
                refine lv_iload_n hx hb dX7_does_128 rfl (lv_at hl 2 rfl) ?_
                refine m_ld15 (i := i) hx hb hK hR (by omega) dX7_does_129 ?_
                refine x_top (y := (nI w)) (hc) ?_
                refine y_if_ne hx hb (by omega) (tgt := 137) dX7_does_130 (by decide) (fun c130 => ?_) (fun c130 => ?_)
                · refine lv_iconst (v := nI 0) hx hb dX7_does_137 (by decide) ?_
                  refine y_icmp_ne hx hb (by decide) (by decide) (tgt := 143) dX7_does_138 (by decide) (fun c138 => ?_) (fun c138 => ?_)
                  · refine lv_aload_n hx hb dX7_does_143 rfl (lv_at hl 1 rfl) ?_
                    refine m_get hx hb hts in_X7_does_RX7 hown hK hR 21 (by decide) (hts (.fieldLink RX7 53 "ArcheloftModel" "command" "[I") (by decide +kernel)) rfl (v := .ref (g + 15)) rfl dX7_does_144 ?_
                    refine lv_iload_n hx hb dX7_does_147 rfl (lv_at hl 2 rfl) ?_
                    refine m_ld15 (i := i) hx hb hK hR (by omega) dX7_does_148 ?_
                    refine x_top (y := (nI w)) (hc) ?_
                    refine y_if_ne hx hb (by omega) (tgt := 172) dX7_does_149 (by decide) (fun c149 => ?_) (fun c149 => ?_)
                    · have ho : (doC E R (S 1) (nI w) (Y 16 i) (Y 17 i) (Y 18 i)) = (true, takesE E sl k6, takesR E R sl k6) := by rw [hkk]; exact (doC_1 hw c18 c78 c130 hk6 hlk9 hkT).trans (if_neg (by rw [hbt]; decide))
                      refine lv_aload_n hx hb dX7_does_172 rfl (lv_at hl 1 rfl) ?_
                      refine lv_iload_n hx hb dX7_does_173 rfl (lv_at hl 0 rfl) ?_
                      refine lv_aload_n hx hb dX7_does_174 rfl (lv_at hl 1 rfl) ?_
                      refine m_get hx hb hts in_X7_does_RX7 hown hK hR 4 (by decide) (hts (.fieldLink RX7 17 "ArcheloftModel" "kinds" "[I") (by decide +kernel)) rfl (v := .ref (g + 3)) rfl dX7_does_175 ?_
                      refine lv_iload_n hx hb dX7_does_178 rfl (lv_at hl 0 rfl) ?_
                      refine m_ld3 (i := sl) hx hb hK hR (by omega) dX7_does_179 ?_
                      refine x_top (y := (nI (mKd E sl))) (hE.2.2.1 sl hs32 hsal) ?_
                      refine lv_iconst (v := nI 1) hx hb dX7_does_180 (by decide) ?_
                      refine lv_aload_n hx hb dX7_does_181 rfl (lv_at hl 1 rfl) ?_
                      refine m_get hx hb hts in_X7_does_RX7 hown hK hR 23 (by decide) (hts (.fieldLink RX7 59 "ArcheloftModel" "toKind" "[I") (by decide +kernel)) rfl (v := .ref (g + 17)) rfl dX7_does_182 ?_
                      refine lv_iload_n hx hb dX7_does_185 rfl (lv_at hl 2 rfl) ?_
                      refine m_ld17 (i := i) hx hb hK hR (by omega) dX7_does_186 ?_
                      refine x_top (y := (nI k6)) (hkk) ?_
                      refine lv_ishl hx hb dX7_does_187 ?_
                      refine lv_iconst (v := -1) hx hb dX7_does_188 (by decide) ?_
                      refine lv_ixor hx hb dX7_does_189 ?_
                      refine lv_iand hx hb dX7_does_190 ?_
                      refine x_top (y := (nI (clrB (mKd E sl) k6))) ((bit_clr (mKd E sl) (iE.1 sl) k6 hk6).1) ?_
                      refine k_vp (k_V (As := [.int (nI sl), .int (nI (clrB (mKd E sl) k6))]) (rest := []) ⟨hx, hb, hml, hown, hts⟩ hev hS (c_X7_becomes l hR hE hr iE iR hsal (bit_clr (mKd E sl) (iE.1 sl) k6 hk6).2) (cwV 2 hts gX7_does_X7_becomes rfl rfl rfl (by decide +kernel) ⟨Nat.le_of_ble_eq_true rfl, Nat.le_of_ble_eq_true rfl⟩) (x_recv hK hR.1 rfl) rfl hl.1 (Nat.le_of_ble_eq_true rfl) dX7_does_191 (Nat.le_of_ble_eq_true rfl) (Nat.le_of_ble_eq_true rfl)) hS hnt hlk (fun _ _ h _ => h.elim) (Nat.le_of_ble_eq_true rfl) (Nat.le_of_ble_eq_true rfl) (fun H10 locs10 hP hz10 hS => ?_)
                      refine W.widen (k := 0) (n := 0) (Nat.le_refl _) (Nat.le_refl _) ?_
                      obtain ⟨S2, Y2, hR, hE2, hr2, fs2, fy2⟩ := hP
                      refine lv_iconst (v := nI 1) hx hb dX7_does_194 (by decide) ?_
                      exact r_z hx hb hrt9 hlk hS (Nat.le_of_ble_eq_true rfl) (Nat.le_of_ble_eq_true rfl) dX7_does_195 rfl (⟨by rw [ho]; rfl, S2, Y2, hR, by rw [ho]; exact hE2, by rw [ho]; exact hr2, fs2, fun j h1 h2 => fy2 j (by omega) (by omega) (by omega) (by omega) (by omega)⟩)
                    · exact absurd c149 c130
                  · exact absurd c138 (by decide)
                · refine lv_iconst (v := nI 1) hx hb dX7_does_133 (by decide) ?_
                  refine lv_goto (tgt := 138) hx hb dX7_does_134 (by decide) ?_
                  refine y_icmp_ne hx hb (by decide) (by decide) (tgt := 143) dX7_does_138 (by decide) (fun c138 => ?_) (fun c138 => ?_)
                  · exact absurd c138 (by decide)
                  · have ho : (doC E R (S 1) (nI w) (Y 16 i) (Y 17 i) (Y 18 i)) = (false, E, R) := by rw [c130, hkk]; exact (doC_0 hk6 hlk9 hkT).trans (if_pos hbt)
                    refine lv_iconst (v := nI 0) hx hb dX7_does_141 (by decide) ?_
                    exact r_z hx hb hrt9 hlk hS (Nat.le_of_ble_eq_true rfl) (Nat.le_of_ble_eq_true rfl) dX7_does_142 rfl (⟨by rw [ho]; rfl, S, Y, hR, by rw [ho]; exact hE, by rw [ho]; exact hr, fun _ _ => rfl, fun _ _ _ => rfl⟩)
            · exact absurd c102 c78
          · have ho : (doC E R (S 1) (nI w) (Y 16 i) (Y 17 i) (Y 18 i)) = (false, E, R) := doC_k hw c18 c78 hlk9 c90
            refine lv_iconst (v := nI 0) hx hb dX7_does_93 (by decide) ?_
            exact r_z hx hb hrt9 hlk hS (Nat.le_of_ble_eq_true rfl) (Nat.le_of_ble_eq_true rfl) dX7_does_94 rfl (⟨by rw [ho]; rfl, S, Y, hR, by rw [ho]; exact hE, by rw [ho]; exact hr, fun _ _ => rfl, fun _ _ _ => rfl⟩)
    · refine lv_aload_n hx hb dX7_does_21 rfl (lv_at hl 1 rfl) ?_
      refine k_ip (k_V (As := []) (rest := []) ⟨hx, hb, hml, hown, hts⟩ hev hS (c_X7_freeSlot l hR hE) (cwV 0 hts gX7_does_X7_freeSlot rfl rfl rfl (by decide +kernel) ⟨Nat.le_of_ble_eq_true rfl, Nat.le_of_ble_eq_true rfl⟩) (x_recv hK hR.1 rfl) rfl hl.1 (Nat.le_of_ble_eq_true rfl) dX7_does_22 (Nat.le_of_ble_eq_true rfl) (Nat.le_of_ble_eq_true rfl)) hS hnt hlk (fun _ _ h _ => h.elim) (Nat.le_of_ble_eq_true rfl) (Nat.le_of_ble_eq_true rfl) (fun rq11_ H11 locs11 hP hz11 hS => ?_)
      refine W.widen (k := 0) (n := 0) (Nat.le_refl _) (Nat.le_refl _) ?_
      have hR : RM D T g S Y H11 := by rw [hP.1]; exact hR
      have er1 := hP.2
      refine x_top (y := (nI (free E))) (er1) ?_
      have hf32 : free E ≤ 32 := by obtain ⟨f, e1, e2, -⟩ := free_ex E; omega
      refine lv_bipush (v := nI 32) hx hb dX7_does_25 (by decide) ?_
      refine y_icmp_eq hx hb (by omega) (Nat.le_of_ble_eq_true rfl) (tgt := 42) dX7_does_27 (by decide) (fun c27 => ?_) (fun c27 => ?_)
      · have ho : (doC E R (S 1) (nI w) (Y 16 i) (Y 17 i) (Y 18 i)) = (false, E, R) := by rw [c18]; exact doC_3a (Or.inl c27)
        refine lv_iconst (v := nI 0) hx hb dX7_does_42 (by decide) ?_
        exact r_z hx hb hrt9 hlk hS (Nat.le_of_ble_eq_true rfl) (Nat.le_of_ble_eq_true rfl) dX7_does_43 rfl (⟨by rw [ho]; rfl, S, Y, hR, by rw [ho]; exact hE, by rw [ho]; exact hr, fun _ _ => rfl, fun _ _ _ => rfl⟩)
      · obtain ⟨hf1, hf2⟩ := free_lt c27
        obtain ⟨iE2, iR2⟩ := makes_inv iE iR hf2 hf1
        refine lv_aload_n hx hb dX7_does_30 rfl (lv_at hl 1 rfl) ?_
        refine m_get hx hb hts in_X7_does_RX7 hown hK hR 23 (by decide) (hts (.fieldLink RX7 59 "ArcheloftModel" "toKind" "[I") (by decide +kernel)) rfl (v := .ref (g + 17)) rfl dX7_does_31 ?_
        refine lv_iload_n hx hb dX7_does_34 rfl (lv_at hl 2 rfl) ?_
        refine m_ld17 (i := i) hx hb hK hR (by omega) dX7_does_35 ?_
        refine k_ip (k_S (As := [.int (Y 17 i)]) (rest := []) ⟨hx, hb, hml, hown, hts⟩ hev hS (c_X7_isKind l (A := AM g) (H := H11) (Y 17 i)) (va_cwS 1 hts gX7_does_X7_isKind rfl rfl rfl (by decide +kernel) ⟨Nat.le_of_ble_eq_true rfl, Nat.le_of_ble_eq_true rfl⟩) rfl hl.1 (Nat.le_of_ble_eq_true rfl) dX7_does_36 (Nat.le_of_ble_eq_true rfl) (Nat.le_of_ble_eq_true rfl)) hS hnt hlk (fun _ _ h _ => h.elim) (Nat.le_of_ble_eq_true rfl) (Nat.le_of_ble_eq_true rfl) (fun rq12_ H12 locs12 hP hz12 hS => ?_)
        refine W.widen (k := 0) (n := 0) (Nat.le_refl _) (Nat.le_refl _) ?_
        have hR : RM D T g S Y H12 := by rw [hP.1]; exact hR
        have er2 := hP.2
        refine x_top (y := (bI (isK (Y 17 i)))) (er2) ?_
        refine y_bif_ne hx hb (tgt := 44) dX7_does_39 (by decide) (fun c39 => ?_) (fun c39 => ?_)
        · obtain ⟨k6, hk6, hkk⟩ := isK_of c39
          have hkT : isK (nI k6) = true := by rw [← hkk]; exact c39
          have ho : (doC E R (S 1) (nI w) (Y 16 i) (Y 17 i) (Y 18 i)) = (true, addsE (makesE E (free E)) (free E) k6 (Y 18 i) (S 1), addsR (makesE E (free E)) (rowAdd R 0 (free E)) (free E) k6) := by rw [c18, hkk]; exact doC_3b hk6 c27 hkT
          refine lv_aload_n hx hb dX7_does_44 rfl (lv_at hl 1 rfl) ?_
          refine lv_aload_n hx hb dX7_does_45 rfl (lv_at hl 1 rfl) ?_
          refine k_ip (k_V (As := []) (rest := [.ref g]) ⟨hx, hb, hml, hown, hts⟩ hev hS (c_X7_makes l hR hE hr iE iR hf1) (cwV 0 hts gX7_does_X7_makes rfl rfl rfl (by decide +kernel) ⟨Nat.le_of_ble_eq_true rfl, Nat.le_of_ble_eq_true rfl⟩) (x_recv hK hR.1 rfl) rfl hl.1 (Nat.le_of_ble_eq_true rfl) dX7_does_46 (Nat.le_of_ble_eq_true rfl) (Nat.le_of_ble_eq_true rfl)) hS hnt hlk (fun _ _ h _ => h.elim) (Nat.le_of_ble_eq_true rfl) (Nat.le_of_ble_eq_true rfl) (fun rq13_ H13 locs13 hP hz13 hS => ?_)
          refine W.widen (k := 0) (n := 0) (Nat.le_refl _) (Nat.le_refl _) ?_
          obtain ⟨er2, S2, Y2, hR, hE2, hr2, fs2, fy2⟩ := hP
          refine x_top (y := (nI (free E))) (er2) ?_
          refine lv_aload_n hx hb dX7_does_49 rfl (lv_at hl 1 rfl) ?_
          refine m_get hx hb hts in_X7_does_RX7 hown hK hR 23 (by decide) (hts (.fieldLink RX7 59 "ArcheloftModel" "toKind" "[I") (by decide +kernel)) rfl (v := .ref (g + 17)) rfl dX7_does_50 ?_
          refine lv_iload_n hx hb dX7_does_53 rfl (lv_at hl 2 rfl) ?_
          refine m_ld17 (i := i) hx hb hK hR (by omega) dX7_does_54 ?_
          refine x_top (y := (nI k6)) ((congrFun (fy2 17 (by decide) (by decide) (by decide) (by decide) (by decide) (by decide) (by decide)) i).trans hkk) ?_
          refine lv_aload_n hx hb dX7_does_55 rfl (lv_at hl 1 rfl) ?_
          refine m_get hx hb hts in_X7_does_RX7 hown hK hR 24 (by decide) (hts (.fieldLink RX7 62 "ArcheloftModel" "toValue" "[I") (by decide +kernel)) rfl (v := .ref (g + 18)) rfl dX7_does_56 ?_
          refine lv_iload_n hx hb dX7_does_59 rfl (lv_at hl 2 rfl) ?_
          refine m_ld18 (i := i) hx hb hK hR (by omega) dX7_does_60 ?_
          refine k_vp (k_V (As := [.int (nI (free E)), .int (nI k6), .int (Y2 18 i)]) (rest := []) ⟨hx, hb, hml, hown, hts⟩ hev hS (c_X7_adds l hR hE2 hr2 iE2 iR2 makes_al hk6 (Y2 18 i)) (cwV 3 hts gX7_does_X7_adds rfl rfl rfl (by decide +kernel) ⟨Nat.le_of_ble_eq_true rfl, Nat.le_of_ble_eq_true rfl⟩) (x_recv hK hR.1 rfl) rfl hl.1 (Nat.le_of_ble_eq_true rfl) dX7_does_61 (Nat.le_of_ble_eq_true rfl) (Nat.le_of_ble_eq_true rfl)) hS hnt hlk (fun _ _ h _ => h.elim) (Nat.le_of_ble_eq_true rfl) (Nat.le_of_ble_eq_true rfl) (fun H14 locs14 hP hz14 hS => ?_)
          refine W.widen (k := 0) (n := 0) (Nat.le_refl _) (Nat.le_refl _) ?_
          obtain ⟨S3, Y3, hR, hE3, hr3, fs3, fy3⟩ := hP
          have e18 : Y2 18 = Y 18 := fy2 18 (by decide) (by decide) (by decide) (by decide) (by decide) (by decide) (by decide)
          have e1 : S2 1 = S 1 := fs2 1 (by decide)
          rw [e18, e1] at hE3
          refine lv_iconst (v := nI 1) hx hb dX7_does_64 (by decide) ?_
          exact r_z hx hb hrt9 hlk hS (Nat.le_of_ble_eq_true rfl) (Nat.le_of_ble_eq_true rfl) dX7_does_65 rfl (⟨by rw [ho]; rfl, S3, Y3, hR, by rw [ho]; exact hE3, by rw [ho]; exact hr3, fun j hj => (fs3 j hj).trans (fs2 j hj), fun j h1 h2 => (fy3 j (by omega) (by omega) (by omega) (by omega) (by omega) (by omega) (by omega)).trans (fy2 j (by omega) (by omega) (by omega) (by omega) (by omega) (by omega) (by omega))⟩)
        · have ho : (doC E R (S 1) (nI w) (Y 16 i) (Y 17 i) (Y 18 i)) = (false, E, R) := by rw [c18]; exact doC_3a (Or.inr c39)
          refine lv_iconst (v := nI 0) hx hb dX7_does_42 (by decide) ?_
          exact r_z hx hb hrt9 hlk hS (Nat.le_of_ble_eq_true rfl) (Nat.le_of_ble_eq_true rfl) dX7_does_43 rfl (⟨by rw [ho]; rfl, S, Y, hR, by rw [ho]; exact hE, by rw [ho]; exact hr, fun _ _ => rfl, fun _ _ _ => rfl⟩)
set_option maxRecDepth 100000 in
theorem in_X7_finish_RX7 : ∀ w ∈ wsX70, w ∈ wsX7_finish := by decide +kernel
set_option maxHeartbeats 4000000 in
set_option maxRecDepth 100000 in
theorem c_X7_finish (l : Launch) {D : va_G} {T : Nat → ClassId} {dE mi : Nat} {g : Nat} {S : Nat → Int32} {Y : Nat → Nat → Int32} {H : Heap} (hR : RM D T g S Y H) {M : mSt} (hM : Rel S Y M) {b : Nat} (hI : Inv b M) : vx_Met l yX7_finish wsX7_finish (rmL 4 0 0) (PcE D T dE mi (AM g) H [.ref g]) (QI (AM g) (fun r H1 => PM D T g (oFinish M) r H1)) (XX (AM g) (XN)) 0 0 (AM g) := by
  refine entry (cc := cX7_finish) (maxL := 3) (ret := (some .int)) (by decide) rfl (Nat.le_of_ble_eq_true rfl) ?_
  intro p e s m args below meth c hx hb hrt9 hml hown hts hlk hnt hnm hev hS ls hl
  have hown : s.vm.findClass RX7 = some m.cls := hown
  have hK := hev.1
  have hl : lv_has ls 3 [(0, .ref g)] := hl
  obtain ⟨hT, hE, hRw, hQ, hW, hY⟩ := id hM
  obtain ⟨iE, iR, iQ, iW, iY, hb9, hh⟩ := id hI
  have hb0 : b ≤ 1000000 := Nat.le_trans hb9 (by decide)
  refine lv_aload_n hx hb dX7_finish_0 rfl (lv_at hl 0 rfl) ?_
  refine lv_aload_n hx hb dX7_finish_1 rfl (lv_at hl 0 rfl) ?_
  refine m_get hx hb hts in_X7_finish_RX7 hown hK hR 17 (by decide) (hts (.fieldLink RX7 102 "ArcheloftModel" "isWalking" "Z") (by decide +kernel)) rfl (v := .int (S 17)) rfl dX7_finish_2 ?_
  refine x_top (y := (bI (wOn (sW M)))) (hW.1) ?_
  refine y_bif_eq hx hb (tgt := 12) dX7_finish_5 (by decide) (fun c5 => ?_) (fun c5 => ?_)
  · have ho : oFinish M = oErr M 1 := if_pos c5
    refine lv_iconst (v := nI 1) hx hb dX7_finish_12 (by decide) ?_
    refine m_put0 (v := (nI 1)) hx hb hts in_X7_finish_RX7 hown hK hS hR (hts (.fieldLink RX7 77 "ArcheloftModel" "thrown" "I") (by decide +kernel)) dX7_finish_13 (fun H1 locs1 hR hS => ?_)
    refine lv_iconst (v := nI 0) hx hb dX7_finish_16 (by decide) ?_
    refine lv_istore_n (lv' := [(1, .int (nI 0)), (0, .ref g)]) hx hb dX7_finish_17 rfl hl (by decide) rfl (fun ls hl => ?_)
    refine lv_aload_n hx hb dX7_finish_18 rfl (lv_at hl 1 rfl) ?_
    refine lv_iconst (v := nI 0) hx hb dX7_finish_19 (by decide) ?_
    refine m_put17 (v := (nI 0)) hx hb hts in_X7_finish_RX7 hown hK hS hR (hts (.fieldLink RX7 102 "ArcheloftModel" "isWalking" "Z") (by decide +kernel)) (Or.inl rfl) dX7_finish_20 (fun H2 locs2 hR hS => ?_)
    refine lv_iconst (v := nI 0) hx hb dX7_finish_23 (by decide) ?_
    refine lv_istore_n (lv' := [(2, .int (nI 0)), (1, .int (nI 0)), (0, .ref g)]) hx hb dX7_finish_24 rfl hl (by decide) rfl (fun ls hl => ?_)
    refine lv_iload_n hx hb dX7_finish_25 rfl (lv_at hl 0 rfl) ?_
    refine lv_aload_n hx hb dX7_finish_26 rfl (lv_at hl 2 rfl) ?_
    refine m_get hx hb hts in_X7_finish_RX7 hown hK hR 25 (by decide) (hts (.fieldLink RX7 165 "ArcheloftModel" "waiting" "I") (by decide +kernel)) rfl (v := .int (S 25)) rfl dX7_finish_27 ?_
    refine lv_icmp_ge (tgt := 62) hx hb dX7_finish_30 (by decide) (fun c30 => ?_) (fun c30 => ?_)
    · refine lv_aload_n hx hb dX7_finish_62 rfl (lv_at hl 2 rfl) ?_
      refine lv_iconst (v := nI 0) hx hb dX7_finish_63 (by decide) ?_
      refine m_put25 (v := (nI 0)) hx hb hts in_X7_finish_RX7 hown hK hS hR (hts (.fieldLink RX7 165 "ArcheloftModel" "waiting" "I") (by decide +kernel)) dX7_finish_64 (fun H3 locs3 hR hS => ?_)
      refine lv_iload_n hx hb dX7_finish_67 rfl (lv_at hl 1 rfl) ?_
      exact r_i hx hb hrt9 hlk hS (Nat.le_of_ble_eq_true rfl) (Nat.le_of_ble_eq_true rfl) dX7_finish_68 (by rw [ho]; exact PM.err (by decide) hR ⟨hT, hE, hRw.cong rfl (fun _ _ _ => rfl), hQ.cong rfl (fun _ _ _ => rfl), ⟨by rw [c5]; rfl, fun z => by rw [c5] at z; cases z⟩, hY.cong rfl (fun _ _ _ => rfl)⟩ rfl)
    · refine lv_aload_n hx hb dX7_finish_33 rfl (lv_at hl 2 rfl) ?_
      refine m_get hx hb hts in_X7_finish_RX7 hown hK hR 0 (by decide) (hts (.fieldLink RX7 77 "ArcheloftModel" "thrown" "I") (by decide +kernel)) rfl (v := .int (nI 1)) rfl dX7_finish_34 ?_
      refine y_if_ne hx hb (by decide) (tgt := 62) dX7_finish_37 (by decide) (fun c37 => ?_) (fun c37 => ?_)
      · refine lv_aload_n hx hb dX7_finish_62 rfl (lv_at hl 2 rfl) ?_
        refine lv_iconst (v := nI 0) hx hb dX7_finish_63 (by decide) ?_
        refine m_put25 (v := (nI 0)) hx hb hts in_X7_finish_RX7 hown hK hS hR (hts (.fieldLink RX7 165 "ArcheloftModel" "waiting" "I") (by decide +kernel)) dX7_finish_64 (fun H4 locs4 hR hS => ?_)
        refine lv_iload_n hx hb dX7_finish_67 rfl (lv_at hl 1 rfl) ?_
        exact r_i hx hb hrt9 hlk hS (Nat.le_of_ble_eq_true rfl) (Nat.le_of_ble_eq_true rfl) dX7_finish_68 (by rw [ho]; exact PM.err (by decide) hR ⟨hT, hE, hRw.cong rfl (fun _ _ _ => rfl), hQ.cong rfl (fun _ _ _ => rfl), ⟨by rw [c5]; rfl, fun z => by rw [c5] at z; cases z⟩, hY.cong rfl (fun _ _ _ => rfl)⟩ rfl)
      · exact absurd c37 (by decide)
  · obtain ⟨w1, w2, w25, w4, w5⟩ := iW c5
    obtain ⟨-, -, w3, -, w6⟩ := hW.2 c5
    have ho : oFinish M = (0, nI (doN (sE M) (sR M) (wC (sW M)) (sT M) (wC (sW M)).1).1, ((doN (sE M) (sR M) (wC (sW M)) (sT M) (wC (sW M)).1).2.1, (doN (sE M) (sR M) (wC (sW M)) (sT M) (wC (sW M)).1).2.2, sQ M, (false, (wN (sW M), wA (sW M), wTold (sW M)), wC (sW M)), sY M, sT M)) := if_neg (by rw [c5]; decide)
    refine lv_iconst (v := nI 0) hx hb dX7_finish_8 (by decide) ?_
    refine lv_goto (tgt := 13) hx hb dX7_finish_9 (by decide) ?_
    refine m_put0 (v := (nI 0)) hx hb hts in_X7_finish_RX7 hown hK hS hR (hts (.fieldLink RX7 77 "ArcheloftModel" "thrown" "I") (by decide +kernel)) dX7_finish_13 (fun H5 locs5 hR hS => ?_)
    refine lv_iconst (v := nI 0) hx hb dX7_finish_16 (by decide) ?_
    refine lv_istore_n (lv' := [(1, .int (nI 0)), (0, .ref g)]) hx hb dX7_finish_17 rfl hl (by decide) rfl (fun ls hl => ?_)
    refine lv_aload_n hx hb dX7_finish_18 rfl (lv_at hl 1 rfl) ?_
    refine lv_iconst (v := nI 0) hx hb dX7_finish_19 (by decide) ?_
    refine m_put17 (v := (nI 0)) hx hb hts in_X7_finish_RX7 hown hK hS hR (hts (.fieldLink RX7 102 "ArcheloftModel" "isWalking" "Z") (by decide +kernel)) (Or.inl rfl) dX7_finish_20 (fun H6 locs6 hR hS => ?_)
    refine lv_iconst (v := nI 0) hx hb dX7_finish_23 (by decide) ?_
    refine lv_istore_n (lv' := [(2, .int (nI 0)), (1, .int (nI 0)), (0, .ref g)]) hx hb dX7_finish_24 rfl hl (by decide) rfl (fun ls hl => ?_)
    have loop25 : ∀ (n : Nat) (i : Nat) (S9 : Nat → Int32) (Y9 : Nat → Nat → Int32) (H9 : Heap) (locs9 : List Loc), (wC (sW M)).1 - i < n → (i ≤ (wC (sW M)).1) → (RelE Y9 (doN (sE M) (sR M) (wC (sW M)) (sT M) i).2.1) → (RelR S9 Y9 (doN (sE M) (sR M) (wC (sW M)) (sT M) i).2.2) → (InvE (doN (sE M) (sR M) (wC (sW M)) (sT M) i).2.1) → (InvR (doN (sE M) (sR M) (wC (sW M)) (sT M) i).2.1 (doN (sE M) (sR M) (wC (sW M)) (sT M) i).2.2) → (∀ k, mHad (doN (sE M) (sR M) (wC (sW M)) (sT M) i).2.1 k ≤ b + 40 * i) → (∀ j, j ≠ 12 → S9 j = (upd (upd S 0 (nI 0)) 17 (nI 0)) j) → (∀ j, 11 ≤ j → j ≠ 22 → Y9 j = Y j) → (RM D T g S9 Y9 H9) → (va_S (AM g) s.heap H9 locs9) → ∀ (ls : Array Slot), lv_has ls 3 [(2, .int (nI i)), (1, .int (nI ((doN (sE M) (sR M) (wC (sW M)) (sT M) i).1))), (0, .ref g)] → W p l e (rmL 4 0 0) s m args below meth c H9 locs9 (0) (0) (vx_MQ below (QI (AM g) (fun r H1 => PM D T g (oFinish M) r H1)) (XX (AM g) (XN)) args s 0 0 (AM g)) (F0 m 25 ls []) := by
      intro n
      induction n with
      | zero => intro i S9 Y9 H9 locs9 hfuel; exact absurd hfuel (Nat.not_lt_zero _)
      | succ n ih25 =>
        intro i S9 Y9 H9 locs9 hfuel hi hE9 hr9 iE9 iR9 hh9 hS9 hY9 hR hS ls hl
        refine lv_iload_n hx hb dX7_finish_25 rfl (lv_at hl 0 rfl) ?_
        refine lv_aload_n hx hb dX7_finish_26 rfl (lv_at hl 2 rfl) ?_
        refine m_get hx hb hts in_X7_finish_RX7 hown hK hR 25 (by decide) (hts (.fieldLink RX7 165 "ArcheloftModel" "waiting" "I") (by decide +kernel)) rfl (v := .int (S9 25)) rfl dX7_finish_27 ?_
        refine x_top (y := (nI ((wC (sW M)).1))) (by rw [hS9 25 (by decide)]; exact w3) ?_
        refine y_icmp_ge hx hb (by omega) (by omega) (tgt := 62) dX7_finish_30 (by decide) (fun c30 => ?_) (fun c30 => ?_)
        · refine lv_aload_n hx hb dX7_finish_62 rfl (lv_at hl 2 rfl) ?_
          refine lv_iconst (v := nI 0) hx hb dX7_finish_63 (by decide) ?_
          refine m_put25 (v := (nI 0)) hx hb hts in_X7_finish_RX7 hown hK hS hR (hts (.fieldLink RX7 165 "ArcheloftModel" "waiting" "I") (by decide +kernel)) dX7_finish_64 (fun H7 locs7 hR hS => ?_)
          refine lv_iload_n hx hb dX7_finish_67 rfl (lv_at hl 1 rfl) ?_
          exact r_i hx hb hrt9 hlk hS (Nat.le_of_ble_eq_true rfl) (Nat.le_of_ble_eq_true rfl) dX7_finish_68 (by
                rw [ho]
                have ei : i = (wC (sW M)).1 := by omega
                rw [ei] at hE9 hr9
                refine PM.ok hR ⟨(hS9 1 (by decide)).trans hT, hE9, hr9.cong rfl (fun _ _ _ => rfl), ?_, ⟨hS9 17 (by decide), fun z => by cases z⟩, ?_⟩ (hS9 0 (by decide)) (by rw [ei])
                · exact hQ.cong (hS9 16 (by decide)) (fun j h1 h2 => hY9 j (by omega) (by omega))
                · exact hY.cong (hS9 29 (by decide)) (fun j h1 h2 => hY9 j (by omega) (by omega)))
        · refine lv_aload_n hx hb dX7_finish_33 rfl (lv_at hl 2 rfl) ?_
          refine m_get hx hb hts in_X7_finish_RX7 hown hK hR 0 (by decide) (hts (.fieldLink RX7 77 "ArcheloftModel" "thrown" "I") (by decide +kernel)) rfl (v := .int (S9 0)) rfl dX7_finish_34 ?_
          refine x_top (y := (nI 0)) (hS9 0 (by decide)) ?_
          obtain ⟨w9, hw9, hcw⟩ := w5 i c30
          obtain ⟨q15, q16, q17, q18⟩ := w6 i c30
          have hlt20 : i < 20 := by omega
          refine y_if_ne hx hb (by decide) (tgt := 62) dX7_finish_37 (by decide) (fun c37 => ?_) (fun c37 => ?_)
          · exact absurd c37 (by decide)
          · refine lv_iload_n hx hb dX7_finish_40 rfl (lv_at hl 1 rfl) ?_
            refine lv_aload_n hx hb dX7_finish_41 rfl (lv_at hl 2 rfl) ?_
            refine lv_iload_n hx hb dX7_finish_42 rfl (lv_at hl 0 rfl) ?_
            refine k_ip (k_V (As := [.int (nI i)]) (rest := [.int (nI ((doN (sE M) (sR M) (wC (sW M)) (sT M) i).1))]) ⟨hx, hb, hml, hown, hts⟩ hev hS (c_X7_does l hR hE9 hr9 iE9 iR9 (b := b + 40 * i) (by omega) hh9 hlt20 hw9 (by rw [hY9 15 (by decide) (by decide)]; exact q15.trans hcw)) (cwV 1 hts gX7_finish_X7_does rfl rfl rfl (by decide +kernel) ⟨Nat.le_of_ble_eq_true rfl, Nat.le_of_ble_eq_true rfl⟩) (x_recv hK hR.1 rfl) rfl hl.1 (Nat.le_of_ble_eq_true rfl) dX7_finish_43 (Nat.le_of_ble_eq_true rfl) (Nat.le_of_ble_eq_true rfl)) hS hnt hlk (fun _ _ h _ => h.elim) (Nat.le_of_ble_eq_true rfl) (Nat.le_of_ble_eq_true rfl) (fun rq8_ H8 locs8 hP hz8 hS => ?_)
            refine W.widen (k := 0) (n := 0) (Nat.le_refl _) (Nat.le_refl _) ?_
            obtain ⟨er2, S2, Y2, hR, hE2, hr2, fs2, fy2⟩ := hP
            have hdc : doC (doN (sE M) (sR M) (wC (sW M)) (sT M) i).2.1 (doN (sE M) (sR M) (wC (sW M)) (sT M) i).2.2 (S9 1) (nI w9) (Y9 16 i) (Y9 17 i) (Y9 18 i) = (doC (doN (sE M) (sR M) (wC (sW M)) (sT M) i).2.1 (doN (sE M) (sR M) (wC (sW M)) (sT M) i).2.2 (sT M) ((wC (sW M)).2.1 i) ((wC (sW M)).2.2.1 i) ((wC (sW M)).2.2.2.1 i) ((wC (sW M)).2.2.2.2 i)) := by
              rw [hY9 16 (by decide) (by decide), hY9 17 (by decide) (by decide), hY9 18 (by decide) (by decide), q16, q17, q18, hcw, hS9 1 (by decide)]
              rw [show (upd (upd S 0 (nI 0)) 17 (nI 0)) 1 = sT M from hT]
            rw [hdc] at er2 hE2 hr2
            obtain ⟨iE2, iR2, hh2⟩ := doC_inv iE9 iR9 hh9 (sT M) ((wC (sW M)).2.1 i) ((wC (sW M)).2.2.1 i) ((wC (sW M)).2.2.2.1 i) ((wC (sW M)).2.2.2.2 i)
            refine x_top (y := (bI ((doC (doN (sE M) (sR M) (wC (sW M)) (sT M) i).2.1 (doN (sE M) (sR M) (wC (sW M)) (sT M) i).2.2 (sT M) ((wC (sW M)).2.1 i) ((wC (sW M)).2.2.1 i) ((wC (sW M)).2.2.2.1 i) ((wC (sW M)).2.2.2.2 i)).1))) (er2) ?_
            refine y_bif_eq hx hb (tgt := 53) dX7_finish_46 (by decide) (fun c46 => ?_) (fun c46 => ?_)
            · refine lv_iconst (v := nI 0) hx hb dX7_finish_53 (by decide) ?_
              refine y_iadd hx hb dX7_finish_54 ?_
              refine x_top (y := (nI ((doN (sE M) (sR M) (wC (sW M)) (sT M) (i + 1)).1))) (by rw [doN_f c46]; rfl) ?_
              refine lv_istore_n (lv' := [(1, .int (nI ((doN (sE M) (sR M) (wC (sW M)) (sT M) (i + 1)).1))), (2, .int (nI i)), (0, .ref g)]) hx hb dX7_finish_55 rfl hl (by decide) rfl (fun ls hl => ?_)
              refine lv_iinc (v := (nI (i + 1))) (lv' := [(2, .int (nI (i + 1))), (1, .int (nI ((doN (sE M) (sR M) (wC (sW M)) (sT M) (i + 1)).1))), (0, .ref g)]) hx hb dX7_finish_56 hl (k := 1) rfl (nI_inc _) (by decide) rfl (fun ls hl => ?_)
              refine lv_goto (tgt := 25) hx hb dX7_finish_59 (by decide) ?_
              exact ih25 (i + 1) S2 Y2 H8 locs8 (by omega) (by omega) hE2 hr2 iE2 iR2 hh2 (fun j hj => (fs2 j hj).trans (hS9 j hj)) (fun j h1 h2 => (fy2 j h1 h2).trans (hY9 j h1 h2)) hR hS ls (lv_sub hl [0, 1, 2] rfl)
            · refine lv_iconst (v := nI 1) hx hb dX7_finish_49 (by decide) ?_
              refine lv_goto (tgt := 54) hx hb dX7_finish_50 (by decide) ?_
              refine y_iadd hx hb dX7_finish_54 ?_
              refine x_top (y := (nI ((doN (sE M) (sR M) (wC (sW M)) (sT M) (i + 1)).1))) (by rw [doN_t c46]) ?_
              refine lv_istore_n (lv' := [(1, .int (nI ((doN (sE M) (sR M) (wC (sW M)) (sT M) (i + 1)).1))), (2, .int (nI i)), (0, .ref g)]) hx hb dX7_finish_55 rfl hl (by decide) rfl (fun ls hl => ?_)
              refine lv_iinc (v := (nI (i + 1))) (lv' := [(2, .int (nI (i + 1))), (1, .int (nI ((doN (sE M) (sR M) (wC (sW M)) (sT M) (i + 1)).1))), (0, .ref g)]) hx hb dX7_finish_56 hl (k := 1) rfl (nI_inc _) (by decide) rfl (fun ls hl => ?_)
              refine lv_goto (tgt := 25) hx hb dX7_finish_59 (by decide) ?_
              exact ih25 (i + 1) S2 Y2 H8 locs8 (by omega) (by omega) hE2 hr2 iE2 iR2 hh2 (fun j hj => (fs2 j hj).trans (hS9 j hj)) (fun j h1 h2 => (fy2 j h1 h2).trans (hY9 j h1 h2)) hR hS ls (lv_sub hl [0, 1, 2] rfl)
    exact loop25 (((wC (sW M)).1 - 0) + 1) 0 (upd (upd S 0 (nI 0)) 17 (nI 0)) Y H6 locs6 (Nat.lt_succ_self _) (Nat.zero_le _) hE (hRw.cong rfl (fun _ _ _ => rfl)) iE iR hh (fun _ _ => rfl) (fun _ _ _ => rfl) hR hS ls (lv_sub hl [0, 1, 2] rfl)

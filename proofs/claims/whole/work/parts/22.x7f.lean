set_option maxRecDepth 100000 in
theorem in_X7_walk_RX7 : ∀ w ∈ wsX70, w ∈ wsX7_walk := by decide +kernel
set_option maxHeartbeats 4000000 in
set_option maxRecDepth 100000 in
theorem c_X7_walk (l : Launch) {D : va_G} {T : Nat → ClassId} {dE mi : Nat} {g : Nat} {S : Nat → Int32} {Y : Nat → Nat → Int32} {H : Heap} (hR : RM D T g S Y H) {M : mSt} (hM : Rel S Y M) {b : Nat} (hI : Inv b M) (x : Int32) : vx_Met l yX7_walk wsX7_walk (rmL 2 0 0) (PcE D T dE mi (AM g) H [.ref g, .int x]) (QI (AM g) (fun r H1 => PM D T g (oWalk M x) r H1)) (XX (AM g) (XN)) 0 0 (AM g) := by
  refine entry (cc := cX7_walk) (maxL := 3) (ret := (some .int)) (by decide) rfl (Nat.le_of_ble_eq_true rfl) ?_
  intro p e s m args below meth c hx hb hrt9 hml hown hts hlk hnt hnm hev hS ls hl
  have hown : s.vm.findClass RX7 = some m.cls := hown
  have hK := hev.1
  have hl : lv_has ls 3 [(0, .ref g), (1, .int x)] := hl
  obtain ⟨hT, hE, hRw, hQ, hW, hY⟩ := id hM
  obtain ⟨iE, iR, iQ, iW, iY, hb9, hh⟩ := id hI
  have hb0 : b ≤ 1000000 := Nat.le_trans hb9 (by decide)
  have okk := iR.ok iE
  have h64 := okk.le
  have hq8 : (sQ M).1 < 2 ^ 31 := Nat.lt_of_le_of_lt iQ.1 (by decide)
  cases hin : inB x (sQ M).1
  · have ho : oWalk M x = oErr M 1 := if_pos hin
    refine lv_aload_n hx hb dX7_walk_0 rfl (lv_at hl 0 rfl) ?_
    refine lv_aload_n hx hb dX7_walk_1 rfl (lv_at hl 0 rfl) ?_
    refine lv_iload_n hx hb dX7_walk_2 rfl (lv_at hl 1 rfl) ?_
    refine lv_aload_n hx hb dX7_walk_3 rfl (lv_at hl 0 rfl) ?_
    refine m_get hx hb hts in_X7_walk_RX7 hown hK hR 16 (by decide) (hts (.fieldLink RX7 147 "ArcheloftModel" "questions" "I") (by decide +kernel)) rfl (v := .int (S 16)) rfl dX7_walk_4 ?_
    refine x_top (y := (nI ((sQ M).1))) (hQ.1) ?_
    refine k_ip (k_V (As := [.int x, .int (nI ((sQ M).1))]) (rest := [.ref g]) ⟨hx, hb, hml, hown, hts⟩ hev hS (c_X7_isIn l hR (x)) (cwV 2 hts gX7_walk_X7_isIn rfl rfl rfl (by decide +kernel) ⟨Nat.le_of_ble_eq_true rfl, Nat.le_of_ble_eq_true rfl⟩) (x_recv hK hR.1 rfl) rfl hl.1 (Nat.le_of_ble_eq_true rfl) dX7_walk_7 (Nat.le_of_ble_eq_true rfl) (Nat.le_of_ble_eq_true rfl)) hS hnt hlk (fun _ _ h _ => h.elim) (Nat.le_of_ble_eq_true rfl) (Nat.le_of_ble_eq_true rfl) (fun rq1_ H1 locs1 hP hz1 hS => ?_)
    refine W.widen (k := 0) (n := 0) (Nat.le_refl _) (Nat.le_refl _) ?_
    obtain ⟨bq_, hbq_, erbq_, hR⟩ := hP
    rw [hin] at hbq_
    subst hbq_
    have hR : RM D T g (upd S 0 (nI 1)) Y H1 := hR
    refine x_top (y := (bI false)) (erbq_) ?_
    refine y_bif_ne hx hb (tgt := 17) dX7_walk_10 (by decide) (fun c10 => ?_) (fun c10 => ?_)
    · exact absurd c10 (by decide)
    · refine lv_iconst (v := nI 1) hx hb dX7_walk_13 (by decide) ?_
      refine lv_goto (tgt := 29) hx hb dX7_walk_14 (by decide) ?_
      refine m_put0 (v := (nI 1)) hx hb hts in_X7_walk_RX7 hown hK hS hR (hts (.fieldLink RX7 77 "ArcheloftModel" "thrown" "I") (by decide +kernel)) dX7_walk_29 (fun H2 locs2 hR hS => ?_)
      refine lv_aload_n hx hb dX7_walk_32 rfl (lv_at hl 0 rfl) ?_
      refine m_get hx hb hts in_X7_walk_RX7 hown hK hR 0 (by decide) (hts (.fieldLink RX7 77 "ArcheloftModel" "thrown" "I") (by decide +kernel)) rfl (v := .int (nI 1)) rfl dX7_walk_33 ?_
      refine y_if_le hx hb (by decide) (tgt := 41) dX7_walk_36 (by decide) (fun c36 => ?_) (fun c36 => ?_)
      · exact absurd c36 (by decide)
      · refine lv_iconst (v := nI 0) hx hb dX7_walk_39 (by decide) ?_
        exact r_i hx hb hrt9 hlk hS (Nat.le_of_ble_eq_true rfl) (Nat.le_of_ble_eq_true rfl) dX7_walk_40 (by rw [ho]; exact PM.err (by decide) hR hM rfl)
  · obtain ⟨j1, hj1, rfl⟩ := inB_of hq8 hin
    have hl : lv_has ls 3 [(0, .ref g), (1, .int (nI j1))] := hl
    have hix := ix_nI (k := j1) (by omega)
    refine lv_aload_n hx hb dX7_walk_0 rfl (lv_at hl 0 rfl) ?_
    refine lv_aload_n hx hb dX7_walk_1 rfl (lv_at hl 0 rfl) ?_
    refine lv_iload_n hx hb dX7_walk_2 rfl (lv_at hl 1 rfl) ?_
    refine lv_aload_n hx hb dX7_walk_3 rfl (lv_at hl 0 rfl) ?_
    refine m_get hx hb hts in_X7_walk_RX7 hown hK hR 16 (by decide) (hts (.fieldLink RX7 147 "ArcheloftModel" "questions" "I") (by decide +kernel)) rfl (v := .int (S 16)) rfl dX7_walk_4 ?_
    refine x_top (y := (nI ((sQ M).1))) (hQ.1) ?_
    refine k_ip (k_V (As := [.int (nI j1), .int (nI ((sQ M).1))]) (rest := [.ref g]) ⟨hx, hb, hml, hown, hts⟩ hev hS (c_X7_isIn l hR (nI j1)) (cwV 2 hts gX7_walk_X7_isIn rfl rfl rfl (by decide +kernel) ⟨Nat.le_of_ble_eq_true rfl, Nat.le_of_ble_eq_true rfl⟩) (x_recv hK hR.1 rfl) rfl hl.1 (Nat.le_of_ble_eq_true rfl) dX7_walk_7 (Nat.le_of_ble_eq_true rfl) (Nat.le_of_ble_eq_true rfl)) hS hnt hlk (fun _ _ h _ => h.elim) (Nat.le_of_ble_eq_true rfl) (Nat.le_of_ble_eq_true rfl) (fun rq3_ H3 locs3 hP hz3 hS => ?_)
    refine W.widen (k := 0) (n := 0) (Nat.le_refl _) (Nat.le_refl _) ?_
    obtain ⟨bq_, hbq_, erbq_, hR⟩ := hP
    rw [hin] at hbq_
    subst hbq_
    have hR : RM D T g (upd S 0 (nI 0)) Y H3 := hR
    refine x_top (y := (bI true)) (erbq_) ?_
    refine y_bif_ne hx hb (tgt := 17) dX7_walk_10 (by decide) (fun c10 => ?_) (fun c10 => ?_)
    · refine lv_aload_n hx hb dX7_walk_17 rfl (lv_at hl 0 rfl) ?_
      refine m_get hx hb hts in_X7_walk_RX7 hown hK hR 17 (by decide) (hts (.fieldLink RX7 102 "ArcheloftModel" "isWalking" "Z") (by decide +kernel)) rfl (v := .int (S 17)) rfl dX7_walk_18 ?_
      refine x_top (y := (bI (wOn (sW M)))) (hW.1) ?_
      refine y_bif_eq hx hb (tgt := 28) dX7_walk_21 (by decide) (fun c21 => ?_) (fun c21 => ?_)
      · have ho : oWalk M (nI j1) = (0, nI (aN (sQ M) (sR M) j1), wW M (true, ((aN (sQ M) (sR M) j1), fun q4 => (aP (sQ M) (sR M) j1 q4).getD 0, 0), mC0)) := by unfold oWalk; rw [hix]; exact (if_neg (by rw [hin]; decide)).trans (if_neg (by rw [c21]; decide))
        have haN9 := aN_le (Q := sQ M) iE iR j1
        refine lv_iconst (v := nI 0) hx hb dX7_walk_28 (by decide) ?_
        refine m_put0 (v := (nI 0)) hx hb hts in_X7_walk_RX7 hown hK hS hR (hts (.fieldLink RX7 77 "ArcheloftModel" "thrown" "I") (by decide +kernel)) dX7_walk_29 (fun H4 locs4 hR hS => ?_)
        refine lv_aload_n hx hb dX7_walk_32 rfl (lv_at hl 0 rfl) ?_
        refine m_get hx hb hts in_X7_walk_RX7 hown hK hR 0 (by decide) (hts (.fieldLink RX7 77 "ArcheloftModel" "thrown" "I") (by decide +kernel)) rfl (v := .int (nI 0)) rfl dX7_walk_33 ?_
        refine y_if_le hx hb (by decide) (tgt := 41) dX7_walk_36 (by decide) (fun c36 => ?_) (fun c36 => ?_)
        · refine lv_aload_n hx hb dX7_walk_41 rfl (lv_at hl 0 rfl) ?_
          refine lv_aload_n hx hb dX7_walk_42 rfl (lv_at hl 0 rfl) ?_
          refine lv_iload_n hx hb dX7_walk_43 rfl (lv_at hl 1 rfl) ?_
          refine k_ip (k_V (As := [.int (nI j1)]) (rest := [.ref g]) ⟨hx, hb, hml, hown, hts⟩ hev hS (c_X7_manyAnswers l hR (R := sR M) (hQ.cong rfl (fun _ _ _ => rfl)) (hRw.cong rfl (fun _ _ _ => rfl)) okk iQ hj1) (cwV 1 hts gX7_walk_X7_manyAnswers rfl rfl rfl (by decide +kernel) ⟨Nat.le_of_ble_eq_true rfl, Nat.le_of_ble_eq_true rfl⟩) (x_recv hK hR.1 rfl) rfl hl.1 (Nat.le_of_ble_eq_true rfl) dX7_walk_44 (Nat.le_of_ble_eq_true rfl) (Nat.le_of_ble_eq_true rfl)) hS hnt hlk (fun _ _ h _ => h.elim) (Nat.le_of_ble_eq_true rfl) (Nat.le_of_ble_eq_true rfl) (fun rq5_ H5 locs5 hP hz5 hS => ?_)
          refine W.widen (k := 0) (n := 0) (Nat.le_refl _) (Nat.le_refl _) ?_
          obtain ⟨hR, erm⟩ := hP
          refine x_top (y := (nI (aN (sQ M) (sR M) j1))) (erm) ?_
          refine m_put19 (v := (nI (aN (sQ M) (sR M) j1))) hx hb hts in_X7_walk_RX7 hown hK hS hR (hts (.fieldLink RX7 159 "ArcheloftModel" "walkedMany" "I") (by decide +kernel)) dX7_walk_47 (fun H6 locs6 hR hS => ?_)
          refine lv_iconst (v := nI 0) hx hb dX7_walk_50 (by decide) ?_
          refine lv_istore_n (lv' := [(2, .int (nI 0)), (0, .ref g), (1, .int (nI j1))]) hx hb dX7_walk_51 rfl hl (by decide) rfl (fun ls hl => ?_)
          have loop52 : ∀ (n : Nat) (i : Nat) (Y9 : Nat → Nat → Int32) (H9 : Heap) (locs9 : List Loc), (aN (sQ M) (sR M) j1) - i < n → (i ≤ (aN (sQ M) (sR M) j1)) → (∀ j, j ≠ 14 → Y9 j = Y j) → (∀ q4, q4 < i → Y9 14 q4 = (fun q4 => handle (sE M) ((aP (sQ M) (sR M) j1 q4).getD 0)) q4) → (RM D T g (upd (upd S 0 (nI 0)) 19 (nI (aN (sQ M) (sR M) j1))) Y9 H9) → (va_S (AM g) s.heap H9 locs9) → ∀ (ls : Array Slot), lv_has ls 3 [(2, .int (nI i)), (0, .ref g), (1, .int (nI j1))] → W p l e (rmL 2 0 0) s m args below meth c H9 locs9 (0) (0) (vx_MQ below (QI (AM g) (fun r H1 => PM D T g (oWalk M (nI j1)) r H1)) (XX (AM g) (XN)) args s 0 0 (AM g)) (F0 m 52 ls []) := by
            intro n
            induction n with
            | zero => intro i Y9 H9 locs9 hfuel; exact absurd hfuel (Nat.not_lt_zero _)
            | succ n ih52 =>
              intro i Y9 H9 locs9 hfuel hi hY9 h14 hR hS ls hl
              refine lv_iload_n hx hb dX7_walk_52 rfl (lv_at hl 0 rfl) ?_
              refine lv_aload_n hx hb dX7_walk_53 rfl (lv_at hl 1 rfl) ?_
              refine m_get hx hb hts in_X7_walk_RX7 hown hK hR 19 (by decide) (hts (.fieldLink RX7 159 "ArcheloftModel" "walkedMany" "I") (by decide +kernel)) rfl (v := .int (nI (aN (sQ M) (sR M) j1))) rfl dX7_walk_54 ?_
              refine y_icmp_ge hx hb (by omega) (by omega) (tgt := 82) dX7_walk_57 (by decide) (fun c57 => ?_) (fun c57 => ?_)
              · refine lv_aload_n hx hb dX7_walk_82 rfl (lv_at hl 1 rfl) ?_
                refine lv_iconst (v := nI 1) hx hb dX7_walk_83 (by decide) ?_
                refine m_put17 (v := (nI 1)) hx hb hts in_X7_walk_RX7 hown hK hS hR (hts (.fieldLink RX7 102 "ArcheloftModel" "isWalking" "Z") (by decide +kernel)) (Or.inr rfl) dX7_walk_84 (fun H7 locs7 hR hS => ?_)
                refine lv_aload_n hx hb dX7_walk_87 rfl (lv_at hl 1 rfl) ?_
                refine lv_iconst (v := nI 0) hx hb dX7_walk_88 (by decide) ?_
                refine m_put20 (v := (nI 0)) hx hb hts in_X7_walk_RX7 hown hK hS hR (hts (.fieldLink RX7 162 "ArcheloftModel" "told" "I") (by decide +kernel)) dX7_walk_89 (fun H8 locs8 hR hS => ?_)
                refine lv_aload_n hx hb dX7_walk_92 rfl (lv_at hl 1 rfl) ?_
                refine lv_iconst (v := nI 0) hx hb dX7_walk_93 (by decide) ?_
                refine m_put25 (v := (nI 0)) hx hb hts in_X7_walk_RX7 hown hK hS hR (hts (.fieldLink RX7 165 "ArcheloftModel" "waiting" "I") (by decide +kernel)) dX7_walk_94 (fun H9 locs9 hR hS => ?_)
                refine lv_aload_n hx hb dX7_walk_97 rfl (lv_at hl 1 rfl) ?_
                refine m_get hx hb hts in_X7_walk_RX7 hown hK hR 19 (by decide) (hts (.fieldLink RX7 159 "ArcheloftModel" "walkedMany" "I") (by decide +kernel)) rfl (v := .int (nI (aN (sQ M) (sR M) j1))) rfl dX7_walk_98 ?_
                exact r_i hx hb hrt9 hlk hS (Nat.le_of_ble_eq_true rfl) (Nat.le_of_ble_eq_true rfl) dX7_walk_101 (by rw [ho]; exact PM.ok hR (relW_walk hM (fun j h0 h17 h19 h20 h25 => by simp [upd, h0, h17, h19, h20, h25]) rfl rfl rfl rfl hY9 (fun q4 hq4 => h14 q4 (by omega))) rfl rfl)
              · refine lv_aload_n hx hb dX7_walk_60 rfl (lv_at hl 1 rfl) ?_
                refine m_get hx hb hts in_X7_walk_RX7 hown hK hR 18 (by decide) (hts (.fieldLink RX7 50 "ArcheloftModel" "walked" "[I") (by decide +kernel)) rfl (v := .ref (g + 14)) rfl dX7_walk_61 ?_
                refine lv_iload_n hx hb dX7_walk_64 rfl (lv_at hl 0 rfl) ?_
                refine lv_aload_n hx hb dX7_walk_65 rfl (lv_at hl 1 rfl) ?_
                refine lv_aload_n hx hb dX7_walk_66 rfl (lv_at hl 1 rfl) ?_
                refine lv_iload_n hx hb dX7_walk_67 rfl (lv_at hl 2 rfl) ?_
                refine lv_iload_n hx hb dX7_walk_68 rfl (lv_at hl 0 rfl) ?_
                have hlt69 : i < (aN (sQ M) (sR M) j1) := by omega
                obtain ⟨k3, hk3, hk3al, -⟩ := aP_al (Q := sQ M) iR hlt69
                have hk32 := iE.2.1 k3 hk3al
                refine k_ip (k_V (As := [.int (nI j1), .int (nI i)]) (rest := [.ref g, .int (nI i), .ref (g + 14)]) ⟨hx, hb, hml, hown, hts⟩ hev hS (c_X7_answerAt l hR (R := sR M) (hQ.cong rfl (fun j h1 h2 => hY9 j (by omega))) (hRw.cong rfl (fun j h1 h2 => hY9 j (by omega))) okk iQ hj1 (p1 := i) (by omega)) (cwV 2 hts gX7_walk_X7_answerAt rfl rfl rfl (by decide +kernel) ⟨Nat.le_of_ble_eq_true rfl, Nat.le_of_ble_eq_true rfl⟩) (x_recv hK hR.1 rfl) rfl hl.1 (Nat.le_of_ble_eq_true rfl) dX7_walk_69 (Nat.le_of_ble_eq_true rfl) (Nat.le_of_ble_eq_true rfl)) hS hnt hlk (fun _ _ h _ => h.elim) (Nat.le_of_ble_eq_true rfl) (Nat.le_of_ble_eq_true rfl) (fun rq10_ H10 locs10 hP hz10 hS => ?_)
                refine W.widen (k := 0) (n := 0) (Nat.le_refl _) (Nat.le_refl _) ?_
                obtain ⟨hR, era⟩ := hP
                refine x_top (y := (nI k3)) (by rw [era, hk3]; rfl) ?_
                refine k_ip (k_V (As := [.int (nI k3)]) (rest := [.int (nI i), .ref (g + 14)]) ⟨hx, hb, hml, hown, hts⟩ hev hS (c_X7_handleOf l hR (hE.cong (fun j hj => hY9 j (by omega))) hk32) (cwV 1 hts gX7_walk_X7_handleOf rfl rfl rfl (by decide +kernel) ⟨Nat.le_of_ble_eq_true rfl, Nat.le_of_ble_eq_true rfl⟩) (x_recv hK hR.1 rfl) rfl hl.1 (Nat.le_of_ble_eq_true rfl) dX7_walk_72 (Nat.le_of_ble_eq_true rfl) (Nat.le_of_ble_eq_true rfl)) hS hnt hlk (fun _ _ h _ => h.elim) (Nat.le_of_ble_eq_true rfl) (Nat.le_of_ble_eq_true rfl) (fun rq11_ H11 locs11 hP hz11 hS => ?_)
                refine W.widen (k := 0) (n := 0) (Nat.le_refl _) (Nat.le_refl _) ?_
                have hR : RM D T g (upd (upd (upd S 0 (nI 0)) 0 (nI 0)) 19 (nI (aN (sQ M) (sR M) j1))) Y9 H11 := by rw [hP.1]; exact hR
                have er4 := hP.2
                refine m_st14 (i := i) (v := rq11_) hx hb hK hS hR (by omega) dX7_walk_75 (fun H12 locs12 hR hS => ?_)
                refine lv_iinc (v := (nI (i + 1))) (lv' := [(2, .int (nI (i + 1))), (0, .ref g), (1, .int (nI j1))]) hx hb dX7_walk_76 hl (k := 0) rfl (nI_inc _) (by decide) rfl (fun ls hl => ?_)
                refine lv_goto (tgt := 52) hx hb dX7_walk_79 (by decide) ?_
                exact ih52 (i + 1) (up2 Y9 14 (upd (Y9 14) i rq11_)) H12 locs12 (by omega) (by omega) (st_no hY9) (st_at (F := (fun q4 => handle (sE M) ((aP (sQ M) (sR M) j1 q4).getD 0))) h14 (by rw [er4]; show _ = handle (sE M) ((aP (sQ M) (sR M) j1 i).getD 0); rw [hk3]; rfl)) hR hS ls (lv_sub hl [0, 1, 2] rfl)
          exact loop52 (((aN (sQ M) (sR M) j1) - 0) + 1) 0 Y H6 locs6 (Nat.lt_succ_self _) (Nat.zero_le _) (fun _ _ => rfl) (fun q4 hq4 => absurd hq4 (Nat.not_lt_zero q4)) hR hS ls (lv_sub hl [0, 1, 2] rfl)
        · exact absurd c36 (by decide)
      · have ho : oWalk M (nI j1) = oErr M 2 := by unfold oWalk; rw [hix]; exact (if_neg (by rw [hin]; decide)).trans (if_pos c21)
        refine lv_iconst (v := nI 2) hx hb dX7_walk_24 (by decide) ?_
        refine lv_goto (tgt := 29) hx hb dX7_walk_25 (by decide) ?_
        refine m_put0 (v := (nI 2)) hx hb hts in_X7_walk_RX7 hown hK hS hR (hts (.fieldLink RX7 77 "ArcheloftModel" "thrown" "I") (by decide +kernel)) dX7_walk_29 (fun H13 locs13 hR hS => ?_)
        refine lv_aload_n hx hb dX7_walk_32 rfl (lv_at hl 0 rfl) ?_
        refine m_get hx hb hts in_X7_walk_RX7 hown hK hR 0 (by decide) (hts (.fieldLink RX7 77 "ArcheloftModel" "thrown" "I") (by decide +kernel)) rfl (v := .int (nI 2)) rfl dX7_walk_33 ?_
        refine y_if_le hx hb (by decide) (tgt := 41) dX7_walk_36 (by decide) (fun c36 => ?_) (fun c36 => ?_)
        · exact absurd c36 (by decide)
        · refine lv_iconst (v := nI 0) hx hb dX7_walk_39 (by decide) ?_
          exact r_i hx hb hrt9 hlk hS (Nat.le_of_ble_eq_true rfl) (Nat.le_of_ble_eq_true rfl) dX7_walk_40 (by rw [ho]; exact PM.err (by decide) hR hM rfl)
    · exact absurd c10 (by decide)
set_option maxRecDepth 100000 in
theorem in_X7_next_RX7 : ∀ w ∈ wsX70, w ∈ wsX7_next := by decide +kernel
set_option maxHeartbeats 4000000 in
set_option maxRecDepth 100000 in
theorem c_X7_next (l : Launch) {D : va_G} {T : Nat → ClassId} {dE mi : Nat} {g : Nat} {S : Nat → Int32} {Y : Nat → Nat → Int32} {H : Heap} (hR : RM D T g S Y H) {M : mSt} (hM : Rel S Y M) {b : Nat} (hI : Inv b M) : vx_Met l yX7_next wsX7_next (rmL 0 0 0) (PcE D T dE mi (AM g) H [.ref g]) (QI (AM g) (fun r H1 => PM D T g (oNext M) r H1)) (XX (AM g) (XN)) 0 0 (AM g) := by
  refine entry (cc := cX7_next) (maxL := 1) (ret := (some .int)) (by decide) rfl (Nat.le_of_ble_eq_true rfl) ?_
  intro p e s m args below meth c hx hb hrt9 hml hown hts hlk hnt hnm hev hS ls hl
  have hown : s.vm.findClass RX7 = some m.cls := hown
  have hK := hev.1
  have hl : lv_has ls 1 [(0, .ref g)] := hl
  obtain ⟨hT, hE, hRw, hQ, hW, hY⟩ := id hM
  obtain ⟨iE, iR, iQ, iW, iY, hb9, hh⟩ := id hI
  have hb0 : b ≤ 1000000 := Nat.le_trans hb9 (by decide)
  refine lv_aload_n hx hb dX7_next_0 rfl (lv_at hl 0 rfl) ?_
  refine lv_aload_n hx hb dX7_next_1 rfl (lv_at hl 0 rfl) ?_
  refine m_get hx hb hts in_X7_next_RX7 hown hK hR 17 (by decide) (hts (.fieldLink RX7 102 "ArcheloftModel" "isWalking" "Z") (by decide +kernel)) rfl (v := .int (S 17)) rfl dX7_next_2 ?_
  refine x_top (y := (bI (wOn (sW M)))) (hW.1) ?_
  refine y_bif_eq hx hb (tgt := 12) dX7_next_5 (by decide) (fun c5 => ?_) (fun c5 => ?_)
  · have ho : oNext M = oErr M 1 := if_pos c5
    refine lv_iconst (v := nI 1) hx hb dX7_next_12 (by decide) ?_
    refine m_put0 (v := (nI 1)) hx hb hts in_X7_next_RX7 hown hK hS hR (hts (.fieldLink RX7 77 "ArcheloftModel" "thrown" "I") (by decide +kernel)) dX7_next_13 (fun H1 locs1 hR hS => ?_)
    refine lv_aload_n hx hb dX7_next_16 rfl (lv_at hl 0 rfl) ?_
    refine m_get hx hb hts in_X7_next_RX7 hown hK hR 0 (by decide) (hts (.fieldLink RX7 77 "ArcheloftModel" "thrown" "I") (by decide +kernel)) rfl (v := .int (nI 1)) rfl dX7_next_17 ?_
    refine y_if_gt hx hb (by decide) (tgt := 34) dX7_next_20 (by decide) (fun c20 => ?_) (fun c20 => ?_)
    · refine lv_iconst (v := -1) hx hb dX7_next_34 (by decide) ?_
      exact r_i hx hb hrt9 hlk hS (Nat.le_of_ble_eq_true rfl) (Nat.le_of_ble_eq_true rfl) dX7_next_35 (by rw [ho]; exact PM.err (by decide) hR hM rfl)
    · exact absurd c20 (by decide)
  · obtain ⟨w1, w2, w3, w4, w5⟩ := iW c5
    refine lv_iconst (v := nI 0) hx hb dX7_next_8 (by decide) ?_
    refine lv_goto (tgt := 13) hx hb dX7_next_9 (by decide) ?_
    refine m_put0 (v := (nI 0)) hx hb hts in_X7_next_RX7 hown hK hS hR (hts (.fieldLink RX7 77 "ArcheloftModel" "thrown" "I") (by decide +kernel)) dX7_next_13 (fun H2 locs2 hR hS => ?_)
    refine lv_aload_n hx hb dX7_next_16 rfl (lv_at hl 0 rfl) ?_
    refine m_get hx hb hts in_X7_next_RX7 hown hK hR 0 (by decide) (hts (.fieldLink RX7 77 "ArcheloftModel" "thrown" "I") (by decide +kernel)) rfl (v := .int (nI 0)) rfl dX7_next_17 ?_
    refine y_if_gt hx hb (by decide) (tgt := 34) dX7_next_20 (by decide) (fun c20 => ?_) (fun c20 => ?_)
    · exact absurd c20 (by decide)
    · refine lv_aload_n hx hb dX7_next_23 rfl (lv_at hl 0 rfl) ?_
      refine m_get hx hb hts in_X7_next_RX7 hown hK hR 20 (by decide) (hts (.fieldLink RX7 162 "ArcheloftModel" "told" "I") (by decide +kernel)) rfl (v := .int (S 20)) rfl dX7_next_24 ?_
      refine x_top (y := (nI (wTold (sW M)))) ((hW.2 c5).2.1) ?_
      refine lv_aload_n hx hb dX7_next_27 rfl (lv_at hl 0 rfl) ?_
      refine m_get hx hb hts in_X7_next_RX7 hown hK hR 19 (by decide) (hts (.fieldLink RX7 159 "ArcheloftModel" "walkedMany" "I") (by decide +kernel)) rfl (v := .int (S 19)) rfl dX7_next_28 ?_
      refine x_top (y := (nI (wN (sW M)))) ((hW.2 c5).1) ?_
      refine y_icmp_ne hx hb (by omega) (by omega) (tgt := 36) dX7_next_31 (by decide) (fun c31 => ?_) (fun c31 => ?_)
      · have ho : oNext M = (0, handle (sE M) (wA (sW M) (wTold (sW M))), wW M (true, (wN (sW M), wA (sW M), wTold (sW M) + 1), wC (sW M))) := (if_neg (by rw [c5]; decide)).trans (if_neg c31)
        refine lv_aload_n hx hb dX7_next_36 rfl (lv_at hl 0 rfl) ?_
        refine lv_dup hx hb dX7_next_37 rfl ?_
        refine m_get hx hb hts in_X7_next_RX7 hown hK hR 20 (by decide) (hts (.fieldLink RX7 162 "ArcheloftModel" "told" "I") (by decide +kernel)) rfl (v := .int (S 20)) rfl dX7_next_38 ?_
        refine x_top (y := (nI (wTold (sW M)))) ((hW.2 c5).2.1) ?_
        refine lv_iconst (v := nI 1) hx hb dX7_next_41 (by decide) ?_
        refine y_iadd hx hb dX7_next_42 ?_
        refine m_put20 (v := (nI ((wTold (sW M)) + 1))) hx hb hts in_X7_next_RX7 hown hK hS hR (hts (.fieldLink RX7 162 "ArcheloftModel" "told" "I") (by decide +kernel)) dX7_next_43 (fun H3 locs3 hR hS => ?_)
        refine lv_aload_n hx hb dX7_next_46 rfl (lv_at hl 0 rfl) ?_
        refine m_get hx hb hts in_X7_next_RX7 hown hK hR 18 (by decide) (hts (.fieldLink RX7 50 "ArcheloftModel" "walked" "[I") (by decide +kernel)) rfl (v := .ref (g + 14)) rfl dX7_next_47 ?_
        refine lv_aload_n hx hb dX7_next_50 rfl (lv_at hl 0 rfl) ?_
        refine m_get hx hb hts in_X7_next_RX7 hown hK hR 20 (by decide) (hts (.fieldLink RX7 162 "ArcheloftModel" "told" "I") (by decide +kernel)) rfl (v := .int (nI ((wTold (sW M)) + 1))) rfl dX7_next_51 ?_
        refine lv_iconst (v := nI 1) hx hb dX7_next_54 (by decide) ?_
        refine y_isub hx hb (by omega) dX7_next_55 ?_
        refine m_ld14 (i := ((wTold (sW M)) + 1) - 1) hx hb hK hR (by omega) dX7_next_56 ?_
        refine x_top (y := ((handle (sE M) (wA (sW M) (wTold (sW M)))))) (by rw [Nat.add_sub_cancel]; exact (hW.2 c5).2.2.2.1 _ (by omega)) ?_
        exact r_i hx hb hrt9 hlk hS (Nat.le_of_ble_eq_true rfl) (Nat.le_of_ble_eq_true rfl) dX7_next_57 (by rw [ho]; exact PM.ok hR (rel_told hM c5 (fun j h0 h20 => by simp [upd, h0, h20]) rfl) rfl rfl)
      · have ho : oNext M = oRet M (-1) := (if_neg (by rw [c5]; decide)).trans (if_pos c31)
        refine lv_iconst (v := -1) hx hb dX7_next_34 (by decide) ?_
        exact r_i hx hb hrt9 hlk hS (Nat.le_of_ble_eq_true rfl) (Nat.le_of_ble_eq_true rfl) dX7_next_35 (by rw [ho]; exact PM.ret hR hM rfl rfl)
set_option maxRecDepth 100000 in
theorem in_X7_defer_RX7 : ∀ w ∈ wsX70, w ∈ wsX7_defer := by decide +kernel
set_option maxHeartbeats 4000000 in
set_option maxRecDepth 100000 in
theorem c_X7_defer (l : Launch) {D : va_G} {T : Nat → ClassId} {dE mi : Nat} {g : Nat} {S : Nat → Int32} {Y : Nat → Nat → Int32} {H : Heap} (hR : RM D T g S Y H) {M : mSt} (hM : Rel S Y M) {b : Nat} (hI : Inv b M) (xc xh xk xv : Int32) : vx_Met l yX7_defer wsX7_defer (rmL 0 0 0) (PcE D T dE mi (AM g) H [.ref g, .int xc, .int xh, .int xk, .int xv]) (QI (AM g) (fun r H1 => PM D T g (oDefer M xc xh xk xv) r H1)) (XX (AM g) (XN)) 0 0 (AM g) := by
  refine entry (cc := cX7_defer) (maxL := 5) (ret := (some .int)) (by decide) rfl (Nat.le_of_ble_eq_true rfl) ?_
  intro p e s m args below meth c hx hb hrt9 hml hown hts hlk hnt hnm hev hS ls hl
  have hown : s.vm.findClass RX7 = some m.cls := hown
  have hK := hev.1
  have hl : lv_has ls 5 [(0, .ref g), (1, .int xc), (2, .int xh), (3, .int xk), (4, .int xv)] := hl
  obtain ⟨hT, hE, hRw, hQ, hW, hY⟩ := id hM
  obtain ⟨iE, iR, iQ, iW, iY, hb9, hh⟩ := id hI
  have hb0 : b ≤ 1000000 := Nat.le_trans hb9 (by decide)
  cases hin : inB xc 4
  · have ho : oDefer M xc xh xk xv = oErr M 1 := if_pos hin
    refine lv_aload_n hx hb dX7_defer_0 rfl (lv_at hl 0 rfl) ?_
    refine lv_iload_n hx hb dX7_defer_1 rfl (lv_at hl 1 rfl) ?_
    refine lv_if_lt (tgt := 10) hx hb dX7_defer_2 (by decide) (fun c2 => ?_) (fun c2 => ?_)
    · refine lv_iconst (v := nI 1) hx hb dX7_defer_10 (by decide) ?_
      refine lv_goto (tgt := 35) hx hb dX7_defer_11 (by decide) ?_
      refine m_put0 (v := (nI 1)) hx hb hts in_X7_defer_RX7 hown hK hS hR (hts (.fieldLink RX7 77 "ArcheloftModel" "thrown" "I") (by decide +kernel)) dX7_defer_35 (fun H1 locs1 hR hS => ?_)
      refine lv_aload_n hx hb dX7_defer_38 rfl (lv_at hl 0 rfl) ?_
      refine m_get hx hb hts in_X7_defer_RX7 hown hK hR 0 (by decide) (hts (.fieldLink RX7 77 "ArcheloftModel" "thrown" "I") (by decide +kernel)) rfl (v := .int (nI 1)) rfl dX7_defer_39 ?_
      refine y_if_le hx hb (by decide) (tgt := 47) dX7_defer_42 (by decide) (fun c42 => ?_) (fun c42 => ?_)
      · exact absurd c42 (by decide)
      · refine lv_iconst (v := nI 0) hx hb dX7_defer_45 (by decide) ?_
        exact r_i hx hb hrt9 hlk hS (Nat.le_of_ble_eq_true rfl) (Nat.le_of_ble_eq_true rfl) dX7_defer_46 (by rw [ho]; exact PM.err (by decide) hR hM rfl)
    · refine lv_iload_n hx hb dX7_defer_5 rfl (lv_at hl 1 rfl) ?_
      refine lv_iconst (v := nI 3) hx hb dX7_defer_6 (by decide) ?_
      refine lv_icmp_le (tgt := 14) hx hb dX7_defer_7 (by decide) (fun c7 => ?_) (fun c7 => ?_)
      · exact absurd hin (by rw [show inB xc 4 = true from decide_eq_true ⟨i32_nlt c2, Int32.lt_of_le_of_lt c7 (by decide)⟩]; decide)
      · refine lv_iconst (v := nI 1) hx hb dX7_defer_10 (by decide) ?_
        refine lv_goto (tgt := 35) hx hb dX7_defer_11 (by decide) ?_
        refine m_put0 (v := (nI 1)) hx hb hts in_X7_defer_RX7 hown hK hS hR (hts (.fieldLink RX7 77 "ArcheloftModel" "thrown" "I") (by decide +kernel)) dX7_defer_35 (fun H2 locs2 hR hS => ?_)
        refine lv_aload_n hx hb dX7_defer_38 rfl (lv_at hl 0 rfl) ?_
        refine m_get hx hb hts in_X7_defer_RX7 hown hK hR 0 (by decide) (hts (.fieldLink RX7 77 "ArcheloftModel" "thrown" "I") (by decide +kernel)) rfl (v := .int (nI 1)) rfl dX7_defer_39 ?_
        refine y_if_le hx hb (by decide) (tgt := 47) dX7_defer_42 (by decide) (fun c42 => ?_) (fun c42 => ?_)
        · exact absurd c42 (by decide)
        · refine lv_iconst (v := nI 0) hx hb dX7_defer_45 (by decide) ?_
          exact r_i hx hb hrt9 hlk hS (Nat.le_of_ble_eq_true rfl) (Nat.le_of_ble_eq_true rfl) dX7_defer_46 (by rw [ho]; exact PM.err (by decide) hR hM rfl)
  · obtain ⟨j1, hj1, rfl⟩ := inB_of (by decide) hin
    have hl : lv_has ls 5 [(0, .ref g), (1, .int (nI j1)), (2, .int xh), (3, .int xk), (4, .int xv)] := hl
    refine lv_aload_n hx hb dX7_defer_0 rfl (lv_at hl 0 rfl) ?_
    refine lv_iload_n hx hb dX7_defer_1 rfl (lv_at hl 1 rfl) ?_
    refine y_if_lt hx hb (by omega) (tgt := 10) dX7_defer_2 (by decide) (fun c2 => ?_) (fun c2 => ?_)
    · exact absurd c2 id
    · refine lv_iload_n hx hb dX7_defer_5 rfl (lv_at hl 1 rfl) ?_
      refine lv_iconst (v := nI 3) hx hb dX7_defer_6 (by decide) ?_
      refine y_icmp_le hx hb (by omega) (Nat.le_of_ble_eq_true rfl) (tgt := 14) dX7_defer_7 (by decide) (fun c7 => ?_) (fun c7 => ?_)
      · refine lv_aload_n hx hb dX7_defer_14 rfl (lv_at hl 0 rfl) ?_
        refine m_get hx hb hts in_X7_defer_RX7 hown hK hR 17 (by decide) (hts (.fieldLink RX7 102 "ArcheloftModel" "isWalking" "Z") (by decide +kernel)) rfl (v := .int (S 17)) rfl dX7_defer_15 ?_
        refine x_top (y := (bI (wOn (sW M)))) (hW.1) ?_
        refine y_bif_eq hx hb (tgt := 30) dX7_defer_18 (by decide) (fun c18 => ?_) (fun c18 => ?_)
        · have ho : oDefer M (nI j1) xh xk xv = oErr M 2 := (if_neg (by rw [hin]; decide)).trans (if_pos (Or.inl c18))
          refine lv_iconst (v := nI 2) hx hb dX7_defer_30 (by decide) ?_
          refine lv_goto (tgt := 35) hx hb dX7_defer_31 (by decide) ?_
          refine m_put0 (v := (nI 2)) hx hb hts in_X7_defer_RX7 hown hK hS hR (hts (.fieldLink RX7 77 "ArcheloftModel" "thrown" "I") (by decide +kernel)) dX7_defer_35 (fun H3 locs3 hR hS => ?_)
          refine lv_aload_n hx hb dX7_defer_38 rfl (lv_at hl 0 rfl) ?_
          refine m_get hx hb hts in_X7_defer_RX7 hown hK hR 0 (by decide) (hts (.fieldLink RX7 77 "ArcheloftModel" "thrown" "I") (by decide +kernel)) rfl (v := .int (nI 2)) rfl dX7_defer_39 ?_
          refine y_if_le hx hb (by decide) (tgt := 47) dX7_defer_42 (by decide) (fun c42 => ?_) (fun c42 => ?_)
          · exact absurd c42 (by decide)
          · refine lv_iconst (v := nI 0) hx hb dX7_defer_45 (by decide) ?_
            exact r_i hx hb hrt9 hlk hS (Nat.le_of_ble_eq_true rfl) (Nat.le_of_ble_eq_true rfl) dX7_defer_46 (by rw [ho]; exact PM.err (by decide) hR hM rfl)
        · obtain ⟨w1, w2, w3, w4, w5⟩ := iW c18
          refine lv_aload_n hx hb dX7_defer_21 rfl (lv_at hl 0 rfl) ?_
          refine m_get hx hb hts in_X7_defer_RX7 hown hK hR 25 (by decide) (hts (.fieldLink RX7 165 "ArcheloftModel" "waiting" "I") (by decide +kernel)) rfl (v := .int (S 25)) rfl dX7_defer_22 ?_
          refine x_top (y := (nI ((wC (sW M)).1))) ((hW.2 c18).2.2.1) ?_
          refine lv_bipush (v := nI 20) hx hb dX7_defer_25 (by decide) ?_
          refine y_icmp_ne hx hb (by omega) (Nat.le_of_ble_eq_true rfl) (tgt := 34) dX7_defer_27 (by decide) (fun c27 => ?_) (fun c27 => ?_)
          · have ho : oDefer M (nI j1) xh xk xv = (0, nI ((wC (sW M)).1 + 1), wW M (true, (wN (sW M), wA (sW M), wTold (sW M)), cAdd (wC (sW M)) (nI j1) xh xk xv)) := (if_neg (by rw [hin]; decide)).trans (if_neg (fun z => by rcases z with z | z; rw [c18] at z; cases z; exact c27 z))
            refine lv_iconst (v := nI 0) hx hb dX7_defer_34 (by decide) ?_
            refine m_put0 (v := (nI 0)) hx hb hts in_X7_defer_RX7 hown hK hS hR (hts (.fieldLink RX7 77 "ArcheloftModel" "thrown" "I") (by decide +kernel)) dX7_defer_35 (fun H4 locs4 hR hS => ?_)
            refine lv_aload_n hx hb dX7_defer_38 rfl (lv_at hl 0 rfl) ?_
            refine m_get hx hb hts in_X7_defer_RX7 hown hK hR 0 (by decide) (hts (.fieldLink RX7 77 "ArcheloftModel" "thrown" "I") (by decide +kernel)) rfl (v := .int (nI 0)) rfl dX7_defer_39 ?_
            refine y_if_le hx hb (by decide) (tgt := 47) dX7_defer_42 (by decide) (fun c42 => ?_) (fun c42 => ?_)
            · refine lv_aload_n hx hb dX7_defer_47 rfl (lv_at hl 0 rfl) ?_
              refine m_get hx hb hts in_X7_defer_RX7 hown hK hR 21 (by decide) (hts (.fieldLink RX7 53 "ArcheloftModel" "command" "[I") (by decide +kernel)) rfl (v := .ref (g + 15)) rfl dX7_defer_48 ?_
              refine lv_aload_n hx hb dX7_defer_51 rfl (lv_at hl 0 rfl) ?_
              refine m_get hx hb hts in_X7_defer_RX7 hown hK hR 25 (by decide) (hts (.fieldLink RX7 165 "ArcheloftModel" "waiting" "I") (by decide +kernel)) rfl (v := .int (S 25)) rfl dX7_defer_52 ?_
              refine x_top (y := (nI ((wC (sW M)).1))) ((hW.2 c18).2.2.1) ?_
              refine lv_iload_n hx hb dX7_defer_55 rfl (lv_at hl 1 rfl) ?_
              refine m_st15 (i := (wC (sW M)).1) (v := (nI j1)) hx hb hK hS hR (by omega) dX7_defer_56 (fun H5 locs5 hR hS => ?_)
              refine lv_aload_n hx hb dX7_defer_57 rfl (lv_at hl 0 rfl) ?_
              refine m_get hx hb hts in_X7_defer_RX7 hown hK hR 22 (by decide) (hts (.fieldLink RX7 56 "ArcheloftModel" "toHandle" "[I") (by decide +kernel)) rfl (v := .ref (g + 16)) rfl dX7_defer_58 ?_
              refine lv_aload_n hx hb dX7_defer_61 rfl (lv_at hl 0 rfl) ?_
              refine m_get hx hb hts in_X7_defer_RX7 hown hK hR 25 (by decide) (hts (.fieldLink RX7 165 "ArcheloftModel" "waiting" "I") (by decide +kernel)) rfl (v := .int (S 25)) rfl dX7_defer_62 ?_
              refine x_top (y := (nI ((wC (sW M)).1))) ((hW.2 c18).2.2.1) ?_
              refine lv_iload_n hx hb dX7_defer_65 rfl (lv_at hl 2 rfl) ?_
              refine m_st16 (i := (wC (sW M)).1) (v := xh) hx hb hK hS hR (by omega) dX7_defer_66 (fun H6 locs6 hR hS => ?_)
              refine lv_aload_n hx hb dX7_defer_67 rfl (lv_at hl 0 rfl) ?_
              refine m_get hx hb hts in_X7_defer_RX7 hown hK hR 23 (by decide) (hts (.fieldLink RX7 59 "ArcheloftModel" "toKind" "[I") (by decide +kernel)) rfl (v := .ref (g + 17)) rfl dX7_defer_68 ?_
              refine lv_aload_n hx hb dX7_defer_71 rfl (lv_at hl 0 rfl) ?_
              refine m_get hx hb hts in_X7_defer_RX7 hown hK hR 25 (by decide) (hts (.fieldLink RX7 165 "ArcheloftModel" "waiting" "I") (by decide +kernel)) rfl (v := .int (S 25)) rfl dX7_defer_72 ?_
              refine x_top (y := (nI ((wC (sW M)).1))) ((hW.2 c18).2.2.1) ?_
              refine lv_iload_n hx hb dX7_defer_75 rfl (lv_at hl 3 rfl) ?_
              refine m_st17 (i := (wC (sW M)).1) (v := xk) hx hb hK hS hR (by omega) dX7_defer_76 (fun H7 locs7 hR hS => ?_)
              refine lv_aload_n hx hb dX7_defer_77 rfl (lv_at hl 0 rfl) ?_
              refine m_get hx hb hts in_X7_defer_RX7 hown hK hR 24 (by decide) (hts (.fieldLink RX7 62 "ArcheloftModel" "toValue" "[I") (by decide +kernel)) rfl (v := .ref (g + 18)) rfl dX7_defer_78 ?_
              refine lv_aload_n hx hb dX7_defer_81 rfl (lv_at hl 0 rfl) ?_
              refine m_get hx hb hts in_X7_defer_RX7 hown hK hR 25 (by decide) (hts (.fieldLink RX7 165 "ArcheloftModel" "waiting" "I") (by decide +kernel)) rfl (v := .int (S 25)) rfl dX7_defer_82 ?_
              refine x_top (y := (nI ((wC (sW M)).1))) ((hW.2 c18).2.2.1) ?_
              refine lv_iload hx hb dX7_defer_85 (lv_at hl 4 rfl) ?_
              refine m_st18 (i := (wC (sW M)).1) (v := xv) hx hb hK hS hR (by omega) dX7_defer_87 (fun H8 locs8 hR hS => ?_)
              refine lv_aload_n hx hb dX7_defer_88 rfl (lv_at hl 0 rfl) ?_
              refine lv_dup hx hb dX7_defer_89 rfl ?_
              refine m_get hx hb hts in_X7_defer_RX7 hown hK hR 25 (by decide) (hts (.fieldLink RX7 165 "ArcheloftModel" "waiting" "I") (by decide +kernel)) rfl (v := .int (S 25)) rfl dX7_defer_90 ?_
              refine x_top (y := (nI ((wC (sW M)).1))) ((hW.2 c18).2.2.1) ?_
              refine lv_iconst (v := nI 1) hx hb dX7_defer_93 (by decide) ?_
              refine y_iadd hx hb dX7_defer_94 ?_
              refine m_put25 (v := (nI (((wC (sW M)).1) + 1))) hx hb hts in_X7_defer_RX7 hown hK hS hR (hts (.fieldLink RX7 165 "ArcheloftModel" "waiting" "I") (by decide +kernel)) dX7_defer_95 (fun H9 locs9 hR hS => ?_)
              refine lv_aload_n hx hb dX7_defer_98 rfl (lv_at hl 0 rfl) ?_
              refine m_get hx hb hts in_X7_defer_RX7 hown hK hR 25 (by decide) (hts (.fieldLink RX7 165 "ArcheloftModel" "waiting" "I") (by decide +kernel)) rfl (v := .int (nI (((wC (sW M)).1) + 1))) rfl dX7_defer_99 ?_
              exact r_i hx hb hrt9 hlk hS (Nat.le_of_ble_eq_true rfl) (Nat.le_of_ble_eq_true rfl) dX7_defer_102 (by rw [ho]; exact PM.ok hR (rel_defer hM c18 (fun j h0 h25 => by simp [upd, h0, h25]) rfl rfl rfl rfl rfl (fun j h1 h2 h3 h4 => by simp [up2, h1, h2, h3, h4])) rfl rfl)
            · exact absurd c42 (by decide)
          · have ho : oDefer M (nI j1) xh xk xv = oErr M 2 := (if_neg (by rw [hin]; decide)).trans (if_pos (Or.inr c27))
            refine lv_iconst (v := nI 2) hx hb dX7_defer_30 (by decide) ?_
            refine lv_goto (tgt := 35) hx hb dX7_defer_31 (by decide) ?_
            refine m_put0 (v := (nI 2)) hx hb hts in_X7_defer_RX7 hown hK hS hR (hts (.fieldLink RX7 77 "ArcheloftModel" "thrown" "I") (by decide +kernel)) dX7_defer_35 (fun H10 locs10 hR hS => ?_)
            refine lv_aload_n hx hb dX7_defer_38 rfl (lv_at hl 0 rfl) ?_
            refine m_get hx hb hts in_X7_defer_RX7 hown hK hR 0 (by decide) (hts (.fieldLink RX7 77 "ArcheloftModel" "thrown" "I") (by decide +kernel)) rfl (v := .int (nI 2)) rfl dX7_defer_39 ?_
            refine y_if_le hx hb (by decide) (tgt := 47) dX7_defer_42 (by decide) (fun c42 => ?_) (fun c42 => ?_)
            · exact absurd c42 (by decide)
            · refine lv_iconst (v := nI 0) hx hb dX7_defer_45 (by decide) ?_
              exact r_i hx hb hrt9 hlk hS (Nat.le_of_ble_eq_true rfl) (Nat.le_of_ble_eq_true rfl) dX7_defer_46 (by rw [ho]; exact PM.err (by decide) hR hM rfl)
      · exact absurd hj1 (by omega)

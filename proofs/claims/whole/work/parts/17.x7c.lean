set_option maxRecDepth 100000 in
theorem in_X7_make_RX7 : ∀ w ∈ wsX70, w ∈ wsX7_make := by decide +kernel
set_option maxHeartbeats 4000000 in
set_option maxRecDepth 100000 in
theorem c_X7_make (l : Launch) {D : va_G} {T : Nat → ClassId} {dE mi : Nat} {g : Nat} {S : Nat → Int32} {Y : Nat → Nat → Int32} {H : Heap} (hR : RM D T g S Y H) {M : mSt} (hM : Rel S Y M) {b : Nat} (hI : Inv b M) : vx_Met l yX7_make wsX7_make (rmL 2 0 0) (PcE D T dE mi (AM g) H [.ref g]) (QI (AM g) (fun r H1 => PM D T g (oMake M) r H1)) (XX (AM g) (XN)) 0 0 (AM g) := by
  refine entry (cc := cX7_make) (maxL := 1) (ret := (some .int)) (by decide) rfl (Nat.le_of_ble_eq_true rfl) ?_
  intro p e s m args below meth c hx hb hrt9 hml hown hts hlk hnt hnm hev hS ls hl
  have hown : s.vm.findClass RX7 = some m.cls := hown
  have hK := hev.1
  have hl : lv_has ls 1 [(0, .ref g)] := hl
  obtain ⟨hT, hE, hRw, hQ, hW, hY⟩ := id hM
  obtain ⟨iE, iR, iQ, iW, iY, hb9, hh⟩ := id hI
  have hb0 : b ≤ 1000000 := Nat.le_trans hb9 (by decide)
  have hf32 : free (sE M) ≤ 32 := by obtain ⟨f, e1, e2, -⟩ := free_ex (sE M); omega
  refine lv_aload_n hx hb dX7_make_0 rfl (lv_at hl 0 rfl) ?_
  refine lv_aload_n hx hb dX7_make_1 rfl (lv_at hl 0 rfl) ?_
  refine k_ip (k_V (As := []) (rest := [.ref g]) ⟨hx, hb, hml, hown, hts⟩ hev hS (c_X7_freeSlot l hR hE) (cwV 0 hts gX7_make_X7_freeSlot rfl rfl rfl (by decide +kernel) ⟨Nat.le_of_ble_eq_true rfl, Nat.le_of_ble_eq_true rfl⟩) (x_recv hK hR.1 rfl) rfl hl.1 (Nat.le_of_ble_eq_true rfl) dX7_make_2 (Nat.le_of_ble_eq_true rfl) (Nat.le_of_ble_eq_true rfl)) hS hnt hlk (fun _ _ h _ => h.elim) (Nat.le_of_ble_eq_true rfl) (Nat.le_of_ble_eq_true rfl) (fun rq1_ H1 locs1 hP hz1 hS => ?_)
  refine W.widen (k := 0) (n := 0) (Nat.le_refl _) (Nat.le_refl _) ?_
  have hR : RM D T g S Y H1 := by rw [hP.1]; exact hR
  have er := hP.2
  refine x_top (y := (nI (free (sE M)))) (er) ?_
  refine lv_bipush (v := nI 32) hx hb dX7_make_5 (by decide) ?_
  refine y_icmp_eq hx hb (by omega) (Nat.le_of_ble_eq_true rfl) (tgt := 17) dX7_make_7 (by decide) (fun c7 => ?_) (fun c7 => ?_)
  · have ho : oMake M = oErr M 1 := if_pos (Or.inl c7)
    refine lv_iconst (v := nI 1) hx hb dX7_make_17 (by decide) ?_
    refine lv_goto (tgt := 22) hx hb dX7_make_18 (by decide) ?_
    refine m_put0 (v := (nI 1)) hx hb hts in_X7_make_RX7 hown hK hS hR (hts (.fieldLink RX7 77 "ArcheloftModel" "thrown" "I") (by decide +kernel)) dX7_make_22 (fun H2 locs2 hR hS => ?_)
    refine lv_aload_n hx hb dX7_make_25 rfl (lv_at hl 0 rfl) ?_
    refine m_get hx hb hts in_X7_make_RX7 hown hK hR 0 (by decide) (hts (.fieldLink RX7 77 "ArcheloftModel" "thrown" "I") (by decide +kernel)) rfl (v := .int (nI 1)) rfl dX7_make_26 ?_
    refine y_if_le hx hb (by decide) (tgt := 36) dX7_make_29 (by decide) (fun c29 => ?_) (fun c29 => ?_)
    · exact absurd c29 (by decide)
    · refine lv_iconst (v := nI 0) hx hb dX7_make_32 (by decide) ?_
      refine lv_goto (tgt := 44) hx hb dX7_make_33 (by decide) ?_
      exact r_i hx hb hrt9 hlk hS (Nat.le_of_ble_eq_true rfl) (Nat.le_of_ble_eq_true rfl) dX7_make_44 (by rw [ho]; exact PM.err (by decide) hR hM rfl)
  · refine lv_aload_n hx hb dX7_make_10 rfl (lv_at hl 0 rfl) ?_
    refine m_get hx hb hts in_X7_make_RX7 hown hK hR 17 (by decide) (hts (.fieldLink RX7 102 "ArcheloftModel" "isWalking" "Z") (by decide +kernel)) rfl (v := .int (S 17)) rfl dX7_make_11 ?_
    refine x_top (y := (bI (wOn (sW M)))) (hW.1) ?_
    refine y_bif_eq hx hb (tgt := 21) dX7_make_14 (by decide) (fun c14 => ?_) (fun c14 => ?_)
    · have ho : oMake M = (0, handle (sE M) (free (sE M)), wER M (makesE (sE M) (free (sE M))) (rowAdd (sR M) 0 (free (sE M)))) := if_neg (fun z => by rcases z with z | z; exact c7 z; rw [c14] at z; cases z)
      refine lv_iconst (v := nI 0) hx hb dX7_make_21 (by decide) ?_
      refine m_put0 (v := (nI 0)) hx hb hts in_X7_make_RX7 hown hK hS hR (hts (.fieldLink RX7 77 "ArcheloftModel" "thrown" "I") (by decide +kernel)) dX7_make_22 (fun H3 locs3 hR hS => ?_)
      refine lv_aload_n hx hb dX7_make_25 rfl (lv_at hl 0 rfl) ?_
      refine m_get hx hb hts in_X7_make_RX7 hown hK hR 0 (by decide) (hts (.fieldLink RX7 77 "ArcheloftModel" "thrown" "I") (by decide +kernel)) rfl (v := .int (nI 0)) rfl dX7_make_26 ?_
      refine y_if_le hx hb (by decide) (tgt := 36) dX7_make_29 (by decide) (fun c29 => ?_) (fun c29 => ?_)
      · refine lv_aload_n hx hb dX7_make_36 rfl (lv_at hl 0 rfl) ?_
        refine lv_aload_n hx hb dX7_make_37 rfl (lv_at hl 0 rfl) ?_
        refine k_ip (k_V (As := []) (rest := [.ref g]) ⟨hx, hb, hml, hown, hts⟩ hev hS (c_X7_makes l hR hE hRw iE iR (by omega)) (cwV 0 hts gX7_make_X7_makes rfl rfl rfl (by decide +kernel) ⟨Nat.le_of_ble_eq_true rfl, Nat.le_of_ble_eq_true rfl⟩) (x_recv hK hR.1 rfl) rfl hl.1 (Nat.le_of_ble_eq_true rfl) dX7_make_38 (Nat.le_of_ble_eq_true rfl) (Nat.le_of_ble_eq_true rfl)) hS hnt hlk (fun _ _ h _ => h.elim) (Nat.le_of_ble_eq_true rfl) (Nat.le_of_ble_eq_true rfl) (fun rq4_ H4 locs4 hP hz4 hS => ?_)
        refine W.widen (k := 0) (n := 0) (Nat.le_refl _) (Nat.le_refl _) ?_
        obtain ⟨er2, S2, Y2, hR, hE2, hr2, fs2, fy2⟩ := hP
        refine x_top (y := (nI (free (sE M)))) (er2) ?_
        refine k_ip (k_V (As := [.int (nI (free (sE M)))]) (rest := []) ⟨hx, hb, hml, hown, hts⟩ hev hS (c_X7_handleOf l hR hE2 (by omega)) (cwV 1 hts gX7_make_X7_handleOf rfl rfl rfl (by decide +kernel) ⟨Nat.le_of_ble_eq_true rfl, Nat.le_of_ble_eq_true rfl⟩) (x_recv hK hR.1 rfl) rfl hl.1 (Nat.le_of_ble_eq_true rfl) dX7_make_41 (Nat.le_of_ble_eq_true rfl) (Nat.le_of_ble_eq_true rfl)) hS hnt hlk (fun _ _ h _ => h.elim) (Nat.le_of_ble_eq_true rfl) (Nat.le_of_ble_eq_true rfl) (fun rq5_ H5 locs5 hP hz5 hS => ?_)
        refine W.widen (k := 0) (n := 0) (Nat.le_refl _) (Nat.le_refl _) ?_
        have hR : RM D T g S2 Y2 H5 := by rw [hP.1]; exact hR
        have er3 := hP.2
        exact r_i hx hb hrt9 hlk hS (Nat.le_of_ble_eq_true rfl) (Nat.le_of_ble_eq_true rfl) dX7_make_44 (by rw [ho]; exact PM.ok hR (hM.er hE2 hr2 (fun j h0 h12 => (fs2 j h12).trans (by simp [upd, h0])) (fun j h1 h2 => fy2 j (by omega) (by omega) (by omega) (by omega) (by omega) (by omega) (by omega)) (fun z => by rw [c14] at z; cases z)) ((fs2 0 (by decide)).trans rfl) er3)
      · exact absurd c29 (by decide)
    · have ho : oMake M = oErr M 1 := if_pos (Or.inr c14)
      refine lv_iconst (v := nI 1) hx hb dX7_make_17 (by decide) ?_
      refine lv_goto (tgt := 22) hx hb dX7_make_18 (by decide) ?_
      refine m_put0 (v := (nI 1)) hx hb hts in_X7_make_RX7 hown hK hS hR (hts (.fieldLink RX7 77 "ArcheloftModel" "thrown" "I") (by decide +kernel)) dX7_make_22 (fun H6 locs6 hR hS => ?_)
      refine lv_aload_n hx hb dX7_make_25 rfl (lv_at hl 0 rfl) ?_
      refine m_get hx hb hts in_X7_make_RX7 hown hK hR 0 (by decide) (hts (.fieldLink RX7 77 "ArcheloftModel" "thrown" "I") (by decide +kernel)) rfl (v := .int (nI 1)) rfl dX7_make_26 ?_
      refine y_if_le hx hb (by decide) (tgt := 36) dX7_make_29 (by decide) (fun c29 => ?_) (fun c29 => ?_)
      · exact absurd c29 (by decide)
      · refine lv_iconst (v := nI 0) hx hb dX7_make_32 (by decide) ?_
        refine lv_goto (tgt := 44) hx hb dX7_make_33 (by decide) ?_
        exact r_i hx hb hrt9 hlk hS (Nat.le_of_ble_eq_true rfl) (Nat.le_of_ble_eq_true rfl) dX7_make_44 (by rw [ho]; exact PM.err (by decide) hR hM rfl)
set_option maxRecDepth 100000 in
theorem in_X7_end_RX7 : ∀ w ∈ wsX70, w ∈ wsX7_end := by decide +kernel
set_option maxHeartbeats 4000000 in
set_option maxRecDepth 100000 in
theorem c_X7_end (l : Launch) {D : va_G} {T : Nat → ClassId} {dE mi : Nat} {g : Nat} {S : Nat → Int32} {Y : Nat → Nat → Int32} {H : Heap} (hR : RM D T g S Y H) {M : mSt} (hM : Rel S Y M) {b : Nat} (hI : Inv b M) (x : Int32) : vx_Met l yX7_end wsX7_end (rmL 2 0 0) (PcE D T dE mi (AM g) H [.ref g, .int x]) (QI (AM g) (fun r H1 => PM D T g (oEnd M x) r H1)) (XX (AM g) (XN)) 0 0 (AM g) := by
  refine entry (cc := cX7_end) (maxL := 3) (ret := (some .int)) (by decide) rfl (Nat.le_of_ble_eq_true rfl) ?_
  intro p e s m args below meth c hx hb hrt9 hml hown hts hlk hnt hnm hev hS ls hl
  have hown : s.vm.findClass RX7 = some m.cls := hown
  have hK := hev.1
  have hl : lv_has ls 3 [(0, .ref g), (1, .int x)] := hl
  obtain ⟨hT, hE, hRw, hQ, hW, hY⟩ := id hM
  obtain ⟨iE, iR, iQ, iW, iY, hb9, hh⟩ := id hI
  have hb0 : b ≤ 1000000 := Nat.le_trans hb9 (by decide)
  refine lv_aload_n hx hb dX7_end_0 rfl (lv_at hl 0 rfl) ?_
  refine lv_iload_n hx hb dX7_end_1 rfl (lv_at hl 1 rfl) ?_
  refine k_ip (k_V (As := [.int x]) (rest := []) ⟨hx, hb, hml, hown, hts⟩ hev hS (c_X7_slotOf l hR hE hb0 hh (x)) (cwV 1 hts gX7_end_X7_slotOf rfl rfl rfl (by decide +kernel) ⟨Nat.le_of_ble_eq_true rfl, Nat.le_of_ble_eq_true rfl⟩) (x_recv hK hR.1 rfl) rfl hl.1 (Nat.le_of_ble_eq_true rfl) dX7_end_2 (Nat.le_of_ble_eq_true rfl) (Nat.le_of_ble_eq_true rfl)) hS hnt hlk (fun _ _ h _ => h.elim) (Nat.le_of_ble_eq_true rfl) (Nat.le_of_ble_eq_true rfl) (fun rq1_ H1 locs1 hP hz1 hS => ?_)
  refine W.widen (k := 0) (n := 0) (Nat.le_refl _) (Nat.le_refl _) ?_
  have hR : RM D T g S Y H1 := by rw [hP.1]; exact hR
  have er := hP.2
  rcases hlk9 : look (sE M) (x) with _ | sl
  · refine x_top (y := ((-1))) (by rw [er, hlk9]; rfl) ?_
    have ho : oEnd M x = oErr M 1 := by unfold oEnd; rw [hlk9]
    refine lv_istore_n (lv' := [(2, .int ((-1))), (0, .ref g), (1, .int x)]) hx hb dX7_end_5 rfl hl (by decide) rfl (fun ls hl => ?_)
    refine lv_aload_n hx hb dX7_end_6 rfl (lv_at hl 1 rfl) ?_
    refine lv_iload_n hx hb dX7_end_7 rfl (lv_at hl 0 rfl) ?_
    refine lv_iconst (v := -1) hx hb dX7_end_8 (by decide) ?_
    refine lv_icmp_ne (tgt := 16) hx hb dX7_end_9 (by decide) (fun c9 => ?_) (fun c9 => ?_)
    · exact absurd rfl c9
    · refine lv_iconst (v := nI 1) hx hb dX7_end_12 (by decide) ?_
      refine lv_goto (tgt := 28) hx hb dX7_end_13 (by decide) ?_
      refine m_put0 (v := (nI 1)) hx hb hts in_X7_end_RX7 hown hK hS hR (hts (.fieldLink RX7 77 "ArcheloftModel" "thrown" "I") (by decide +kernel)) dX7_end_28 (fun H2 locs2 hR hS => ?_)
      refine lv_aload_n hx hb dX7_end_31 rfl (lv_at hl 1 rfl) ?_
      refine m_get hx hb hts in_X7_end_RX7 hown hK hR 0 (by decide) (hts (.fieldLink RX7 77 "ArcheloftModel" "thrown" "I") (by decide +kernel)) rfl (v := .int (nI 1)) rfl dX7_end_32 ?_
      refine y_if_le hx hb (by decide) (tgt := 42) dX7_end_35 (by decide) (fun c35 => ?_) (fun c35 => ?_)
      · exact absurd c35 (by decide)
      · refine lv_iconst (v := nI 0) hx hb dX7_end_38 (by decide) ?_
        refine lv_goto (tgt := 47) hx hb dX7_end_39 (by decide) ?_
        exact r_i hx hb hrt9 hlk hS (Nat.le_of_ble_eq_true rfl) (Nat.le_of_ble_eq_true rfl) dX7_end_47 (by rw [ho]; exact PM.err (by decide) hR hM rfl)
  · refine x_top (y := (nI sl)) (by rw [er, hlk9]; rfl) ?_
    obtain ⟨hs32, hsal, hsh⟩ := look_some hlk9
    refine lv_istore_n (lv' := [(2, .int (nI sl)), (0, .ref g), (1, .int x)]) hx hb dX7_end_5 rfl hl (by decide) rfl (fun ls hl => ?_)
    refine lv_aload_n hx hb dX7_end_6 rfl (lv_at hl 1 rfl) ?_
    refine lv_iload_n hx hb dX7_end_7 rfl (lv_at hl 0 rfl) ?_
    refine lv_iconst (v := -1) hx hb dX7_end_8 (by decide) ?_
    refine lv_icmp_ne (tgt := 16) hx hb dX7_end_9 (by decide) (fun c9 => ?_) (fun c9 => ?_)
    · refine lv_aload_n hx hb dX7_end_16 rfl (lv_at hl 1 rfl) ?_
      refine m_get hx hb hts in_X7_end_RX7 hown hK hR 17 (by decide) (hts (.fieldLink RX7 102 "ArcheloftModel" "isWalking" "Z") (by decide +kernel)) rfl (v := .int (S 17)) rfl dX7_end_17 ?_
      refine x_top (y := (bI (wOn (sW M)))) (hW.1) ?_
      refine y_bif_eq hx hb (tgt := 27) dX7_end_20 (by decide) (fun c20 => ?_) (fun c20 => ?_)
      · have ho : oEnd M x = (0, nI (ends (sE M) (sR M) sl).2.2, wER M (ends (sE M) (sR M) sl).1 (ends (sE M) (sR M) sl).2.1) := by unfold oEnd; rw [hlk9]; exact if_neg (by rw [c20]; decide)
        refine lv_iconst (v := nI 0) hx hb dX7_end_27 (by decide) ?_
        refine m_put0 (v := (nI 0)) hx hb hts in_X7_end_RX7 hown hK hS hR (hts (.fieldLink RX7 77 "ArcheloftModel" "thrown" "I") (by decide +kernel)) dX7_end_28 (fun H3 locs3 hR hS => ?_)
        refine lv_aload_n hx hb dX7_end_31 rfl (lv_at hl 1 rfl) ?_
        refine m_get hx hb hts in_X7_end_RX7 hown hK hR 0 (by decide) (hts (.fieldLink RX7 77 "ArcheloftModel" "thrown" "I") (by decide +kernel)) rfl (v := .int (nI 0)) rfl dX7_end_32 ?_
        refine y_if_le hx hb (by decide) (tgt := 42) dX7_end_35 (by decide) (fun c35 => ?_) (fun c35 => ?_)
        · refine lv_aload_n hx hb dX7_end_42 rfl (lv_at hl 1 rfl) ?_
          refine lv_iload_n hx hb dX7_end_43 rfl (lv_at hl 0 rfl) ?_
          refine k_ip (k_V (As := [.int (nI sl)]) (rest := []) ⟨hx, hb, hml, hown, hts⟩ hev hS (c_X7_ends l hR hE hRw iE iR hsal) (cwV 1 hts gX7_end_X7_ends rfl rfl rfl (by decide +kernel) ⟨Nat.le_of_ble_eq_true rfl, Nat.le_of_ble_eq_true rfl⟩) (x_recv hK hR.1 rfl) rfl hl.1 (Nat.le_of_ble_eq_true rfl) dX7_end_44 (Nat.le_of_ble_eq_true rfl) (Nat.le_of_ble_eq_true rfl)) hS hnt hlk (fun _ _ h _ => h.elim) (Nat.le_of_ble_eq_true rfl) (Nat.le_of_ble_eq_true rfl) (fun rq4_ H4 locs4 hP hz4 hS => ?_)
          refine W.widen (k := 0) (n := 0) (Nat.le_refl _) (Nat.le_refl _) ?_
          obtain ⟨er2, Y2, hR, hE2, hr2, fy2⟩ := hP
          exact r_i hx hb hrt9 hlk hS (Nat.le_of_ble_eq_true rfl) (Nat.le_of_ble_eq_true rfl) dX7_end_47 (by rw [ho]; exact PM.ok hR (hM.er hE2 hr2 (fun j h0 h12 => by simp [upd, h0]) fy2 (fun z => by rw [c20] at z; cases z)) rfl er2)
        · exact absurd c35 (by decide)
      · have ho : oEnd M x = oErr M 2 := by unfold oEnd; rw [hlk9]; exact if_pos c20
        refine lv_iconst (v := nI 2) hx hb dX7_end_23 (by decide) ?_
        refine lv_goto (tgt := 28) hx hb dX7_end_24 (by decide) ?_
        refine m_put0 (v := (nI 2)) hx hb hts in_X7_end_RX7 hown hK hS hR (hts (.fieldLink RX7 77 "ArcheloftModel" "thrown" "I") (by decide +kernel)) dX7_end_28 (fun H5 locs5 hR hS => ?_)
        refine lv_aload_n hx hb dX7_end_31 rfl (lv_at hl 1 rfl) ?_
        refine m_get hx hb hts in_X7_end_RX7 hown hK hR 0 (by decide) (hts (.fieldLink RX7 77 "ArcheloftModel" "thrown" "I") (by decide +kernel)) rfl (v := .int (nI 2)) rfl dX7_end_32 ?_
        refine y_if_le hx hb (by decide) (tgt := 42) dX7_end_35 (by decide) (fun c35 => ?_) (fun c35 => ?_)
        · exact absurd c35 (by decide)
        · refine lv_iconst (v := nI 0) hx hb dX7_end_38 (by decide) ?_
          refine lv_goto (tgt := 47) hx hb dX7_end_39 (by decide) ?_
          exact r_i hx hb hrt9 hlk hS (Nat.le_of_ble_eq_true rfl) (Nat.le_of_ble_eq_true rfl) dX7_end_47 (by rw [ho]; exact PM.err (by decide) hR hM rfl)
    · exact absurd c9 (nI_m1 (by omega))
set_option maxRecDepth 100000 in
theorem in_X7_goesWith_RX7 : ∀ w ∈ wsX70, w ∈ wsX7_goesWith := by decide +kernel
set_option maxHeartbeats 4000000 in
set_option maxRecDepth 100000 in
theorem c_X7_goesWith (l : Launch) {D : va_G} {T : Nat → ClassId} {dE mi : Nat} {g : Nat} {S : Nat → Int32} {Y : Nat → Nat → Int32} {H : Heap} (hR : RM D T g S Y H) {E : mE} (hE : RelE Y E) (iE : InvE E) {a b2 : Nat} (ha : mAl E a = true) (hb2 : b2 < 32) : vx_Met l yX7_goesWith wsX7_goesWith (rmL 0 0 0) (PcE D T dE mi (AM g) H [.ref g, .int (nI a), .int (nI b2)]) (QI (AM g) (fun r H1 => H1 = H ∧ r = bI (goesB E a b2))) (XX (AM g) (XN)) 0 0 (AM g) := by
  refine entry (cc := cX7_goesWith) (maxL := 4) (ret := (some .boolean)) (by decide) rfl (Nat.le_of_ble_eq_true rfl) ?_
  intro p e s m args below meth c hx hb hrt9 hml hown hts hlk hnt hnm hev hS ls hl
  have hown : s.vm.findClass RX7 = some m.cls := hown
  have hK := hev.1
  have hl : lv_has ls 4 [(0, .ref g), (1, .int (nI a)), (2, .int (nI b2))] := hl
  obtain ⟨dp, hdp⟩ := iE.2.2.2.2
  have ha32 := iE.2.1 a ha
  refine lv_iload_n hx hb dX7_goesWith_0 rfl (lv_at hl 1 rfl) ?_
  refine lv_istore_n (lv' := [(3, .int (nI a)), (0, .ref g), (1, .int (nI a)), (2, .int (nI b2))]) hx hb dX7_goesWith_1 rfl hl (by decide) rfl (fun ls hl => ?_)
  have loop2 : ∀ (n : Nat) (o9 : Option Nat) (n9 : Nat), muO dp o9 < n → (o9 = anc E n9 a) → (∀ m, m < n9 → anc E m a ≠ some b2) → ∀ (ls : Array Slot), lv_has ls 4 [(3, .int ((nO o9))), (0, .ref g), (1, .int (nI a)), (2, .int (nI b2))] → W p l e (rmL 0 0 0) s m args below meth c H [] (0) (0) (vx_MQ below (QI (AM g) (fun r H1 => H1 = H ∧ r = bI (goesB E a b2))) (XX (AM g) (XN)) args s 0 0 (AM g)) (F0 m 2 ls []) := by
    intro n
    induction n with
    | zero => intro o9 n9 hfuel; exact absurd hfuel (Nat.not_lt_zero _)
    | succ n ih2 =>
      intro o9 n9 hfuel ho9 hno ls hl
      refine lv_iload_n hx hb dX7_goesWith_2 rfl (lv_at hl 0 rfl) ?_
      refine lv_iconst (v := -1) hx hb dX7_goesWith_3 (by decide) ?_
      refine lv_icmp_eq (tgt := 22) hx hb dX7_goesWith_4 (by decide) (fun c4 => ?_) (fun c4 => ?_)
      · have hz9 : o9 = none := (nO_neg (fun k hk => by have := iE.2.1 k (anc_al iE ha n9 k (by rw [← ho9]; exact hk)); omega)).mp c4
        refine lv_iload_n hx hb dX7_goesWith_22 rfl (lv_at hl 0 rfl) ?_
        refine lv_iload_n hx hb dX7_goesWith_23 rfl (lv_at hl 3 rfl) ?_
        refine lv_icmp_ne (tgt := 31) hx hb dX7_goesWith_24 (by decide) (fun c24 => ?_) (fun c24 => ?_)
        · refine lv_iconst (v := nI 0) hx hb dX7_goesWith_31 (by decide) ?_
          exact r_z hx hb hrt9 hlk hS (Nat.le_of_ble_eq_true rfl) (Nat.le_of_ble_eq_true rfl) dX7_goesWith_32 rfl (⟨rfl, by rw [goes_f (n := n9) (by rw [← ho9, hz9]) hno]; rfl⟩)
        · rw [hz9] at c24; exact absurd c24.symm (nI_m1 (by omega))
      · obtain ⟨k9, hk9⟩ : ∃ k, o9 = some k := by
          cases q : o9 with
          | none => rw [q] at c4; exact absurd rfl c4
          | some k => exact ⟨k, rfl⟩
        have hal9 := anc_al iE ha n9 k9 (by rw [← ho9]; exact hk9)
        have hk32 := iE.2.1 k9 hal9
        have hl : lv_has ls 4 [(3, .int (nI k9)), (0, .ref g), (1, .int (nI a)), (2, .int (nI b2))] := by
          have e9 : ((nO o9)) = (nI k9) := by rw [hk9]; rfl
          rw [← e9]; exact hl
        refine lv_iload_n hx hb dX7_goesWith_7 rfl (lv_at hl 0 rfl) ?_
        refine lv_iload_n hx hb dX7_goesWith_8 rfl (lv_at hl 3 rfl) ?_
        refine y_icmp_eq hx hb (by omega) (by omega) (tgt := 22) dX7_goesWith_9 (by decide) (fun c9 => ?_) (fun c9 => ?_)
        · refine lv_iload_n hx hb dX7_goesWith_22 rfl (lv_at hl 0 rfl) ?_
          refine lv_iload_n hx hb dX7_goesWith_23 rfl (lv_at hl 3 rfl) ?_
          refine y_icmp_ne hx hb (by omega) (by omega) (tgt := 31) dX7_goesWith_24 (by decide) (fun c24 => ?_) (fun c24 => ?_)
          · exact absurd c9 c24
          · refine lv_iconst (v := nI 1) hx hb dX7_goesWith_27 (by decide) ?_
            refine lv_goto (tgt := 32) hx hb dX7_goesWith_28 (by decide) ?_
            exact r_z hx hb hrt9 hlk hS (Nat.le_of_ble_eq_true rfl) (Nat.le_of_ble_eq_true rfl) dX7_goesWith_32 rfl (⟨rfl, by rw [goes_t (n := n9) (by rw [← ho9, hk9, c9])]; rfl⟩)
        · refine lv_aload_n hx hb dX7_goesWith_12 rfl (lv_at hl 1 rfl) ?_
          refine m_get hx hb hts in_X7_goesWith_RX7 hown hK hR 5 (by decide) (hts (.fieldLink RX7 20 "ArcheloftModel" "parent" "[I") (by decide +kernel)) rfl (v := .ref (g + 4)) rfl dX7_goesWith_13 ?_
          refine lv_iload_n hx hb dX7_goesWith_16 rfl (lv_at hl 0 rfl) ?_
          refine m_ld4 (i := k9) hx hb hK hR (by omega) dX7_goesWith_17 ?_
          refine x_top (y := ((nO (mPar E k9)))) (hE.2.2.2.1 k9 hk32 hal9) ?_
          have hfu : muO dp (mPar E k9) < dp k9 + 1 := by
            cases q : mPar E k9 with
            | none => exact Nat.succ_pos _
            | some j => exact Nat.succ_lt_succ (hdp k9 j q)
          have hfu2 : muO dp o9 = dp k9 + 1 := by rw [hk9]; rfl
          refine lv_istore_n (lv' := [(3, .int ((nO (mPar E k9)))), (0, .ref g), (1, .int (nI a)), (2, .int (nI b2))]) hx hb dX7_goesWith_18 rfl hl (by decide) rfl (fun ls hl => ?_)
          refine lv_goto (tgt := 2) hx hb dX7_goesWith_19 (by decide) ?_
          exact ih2 (mPar E k9) (n9 + 1) (by omega) (by show _ = (anc E n9 a).bind (mPar E); rw [← ho9, hk9]; rfl) (fun m hm => by rcases Nat.lt_succ_iff_lt_or_eq.mp hm with q | q; exact hno m q; rw [q, ← ho9, hk9]; exact fun z => c9 (Option.some.inj z)) ls (lv_sub hl [0, 1, 2, 3] rfl)
  exact loop2 ((muO dp (some a)) + 1) (some a) 0 (Nat.lt_succ_self _) rfl (fun m hm => absurd hm (Nat.not_lt_zero m)) ls (lv_sub hl [0, 1, 2, 3] rfl)

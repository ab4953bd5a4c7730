set_option maxRecDepth 100000 in
theorem in_X7_system_RX7 : ∀ w ∈ wsX70, w ∈ wsX7_system := by decide +kernel
set_option maxHeartbeats 4000000 in
set_option maxRecDepth 100000 in
theorem c_X7_system (l : Launch) {D : va_G} {T : Nat → ClassId} {dE mi : Nat} {g : Nat} {S : Nat → Int32} {Y : Nat → Nat → Int32} {H : Heap} (hR : RM D T g S Y H) {M : mSt} (hM : Rel S Y M) {b : Nat} (hI : Inv b M) (xa xb : Int32) : vx_Met l yX7_system wsX7_system (rmL 1 0 0) (PcE D T dE mi (AM g) H [.ref g, .int xa, .int xb]) (QI (AM g) (fun r H1 => PM D T g (oSystem M xa xb) r H1)) (XX (AM g) (XN)) 0 0 (AM g) := by
  refine entry (cc := cX7_system) (maxL := 4) (ret := (some .int)) (by decide) rfl (Nat.le_of_ble_eq_true rfl) ?_
  intro p e s m args below meth c hx hb hrt9 hml hown hts hlk hnt hnm hev hS ls hl
  have hown : s.vm.findClass RX7 = some m.cls := hown
  have hK := hev.1
  have hl : lv_has ls 4 [(0, .ref g), (1, .int xa), (2, .int xb)] := hl
  obtain ⟨hT, hE, hRw, hQ, hW, hY⟩ := id hM
  obtain ⟨iE, iR, iQ, iW, iY, hb9, hh⟩ := id hI
  have hb0 : b ≤ 1000000 := Nat.le_trans hb9 (by decide)
  have h88 := iY.1
  refine lv_aload_n hx hb dX7_system_0 rfl (lv_at hl 0 rfl) ?_
  refine lv_iload_n hx hb dX7_system_1 rfl (lv_at hl 1 rfl) ?_
  refine k_ip (k_S (As := [.int xa]) (rest := [.ref g]) ⟨hx, hb, hml, hown, hts⟩ hev hS (c_X7_isSet l (A := AM g) (H := H) (xa)) (va_cwS 1 hts gX7_system_X7_isSet rfl rfl rfl (by decide +kernel) ⟨Nat.le_of_ble_eq_true rfl, Nat.le_of_ble_eq_true rfl⟩) rfl hl.1 (Nat.le_of_ble_eq_true rfl) dX7_system_2 (Nat.le_of_ble_eq_true rfl) (Nat.le_of_ble_eq_true rfl)) hS hnt hlk (fun _ _ h _ => h.elim) (Nat.le_of_ble_eq_true rfl) (Nat.le_of_ble_eq_true rfl) (fun rq1_ H1 locs1 hP hz1 hS => ?_)
  refine W.widen (k := 0) (n := 0) (Nat.le_refl _) (Nat.le_refl _) ?_
  have hR : RM D T g S Y H1 := by rw [hP.1]; exact hR
  have er1 := hP.2
  refine x_top (y := (bI (isS xa))) (er1) ?_
  refine y_bif_eq hx hb (tgt := 15) dX7_system_5 (by decide) (fun c5 => ?_) (fun c5 => ?_)
  · have ho : oSystem M xa xb = oErr M 1 := if_pos (Or.inl c5)
    refine lv_iconst (v := nI 1) hx hb dX7_system_15 (by decide) ?_
    refine lv_goto (tgt := 33) hx hb dX7_system_16 (by decide) ?_
    refine m_put0 (v := (nI 1)) hx hb hts in_X7_system_RX7 hown hK hS hR (hts (.fieldLink RX7 77 "ArcheloftModel" "thrown" "I") (by decide +kernel)) dX7_system_33 (fun H2 locs2 hR hS => ?_)
    refine lv_aload_n hx hb dX7_system_36 rfl (lv_at hl 0 rfl) ?_
    refine m_get hx hb hts in_X7_system_RX7 hown hK hR 0 (by decide) (hts (.fieldLink RX7 77 "ArcheloftModel" "thrown" "I") (by decide +kernel)) rfl (v := .int (nI 1)) rfl dX7_system_37 ?_
    refine y_if_le hx hb (by decide) (tgt := 45) dX7_system_40 (by decide) (fun c40 => ?_) (fun c40 => ?_)
    · exact absurd c40 (by decide)
    · refine lv_iconst (v := nI 0) hx hb dX7_system_43 (by decide) ?_
      exact r_i hx hb hrt9 hlk hS (Nat.le_of_ble_eq_true rfl) (Nat.le_of_ble_eq_true rfl) dX7_system_44 (by rw [ho]; exact PM.err (by decide) hR hM rfl)
  · refine lv_iload_n hx hb dX7_system_8 rfl (lv_at hl 2 rfl) ?_
    refine k_ip (k_S (As := [.int xb]) (rest := [.ref g]) ⟨hx, hb, hml, hown, hts⟩ hev hS (c_X7_isSet l (A := AM g) (H := H1) (xb)) (va_cwS 1 hts gX7_system_X7_isSet rfl rfl rfl (by decide +kernel) ⟨Nat.le_of_ble_eq_true rfl, Nat.le_of_ble_eq_true rfl⟩) rfl hl.1 (Nat.le_of_ble_eq_true rfl) dX7_system_9 (Nat.le_of_ble_eq_true rfl) (Nat.le_of_ble_eq_true rfl)) hS hnt hlk (fun _ _ h _ => h.elim) (Nat.le_of_ble_eq_true rfl) (Nat.le_of_ble_eq_true rfl) (fun rq3_ H3 locs3 hP hz3 hS => ?_)
    refine W.widen (k := 0) (n := 0) (Nat.le_refl _) (Nat.le_refl _) ?_
    have hR : RM D T g S Y H3 := by rw [hP.1]; exact hR
    have er2 := hP.2
    refine x_top (y := (bI (isS xb))) (er2) ?_
    refine y_bif_ne hx hb (tgt := 19) dX7_system_12 (by decide) (fun c12 => ?_) (fun c12 => ?_)
    · have hno : ¬ (isS xa = false ∨ isS xb = false) := fun w => by rcases w with w | w <;> simp_all
      refine lv_aload_n hx hb dX7_system_19 rfl (lv_at hl 0 rfl) ?_
      refine m_get hx hb hts in_X7_system_RX7 hown hK hR 29 (by decide) (hts (.fieldLink RX7 171 "ArcheloftModel" "systems" "I") (by decide +kernel)) rfl (v := .int (S 29)) rfl dX7_system_20 ?_
      refine x_top (y := (nI ((sY M).1))) (hY.1) ?_
      refine lv_bipush (v := nI 8) hx hb dX7_system_23 (by decide) ?_
      refine y_icmp_ne hx hb (by omega) (Nat.le_of_ble_eq_true rfl) (tgt := 32) dX7_system_25 (by decide) (fun c25 => ?_) (fun c25 => ?_)
      · have hn8 : (sY M).1 < 8 := Nat.lt_of_le_of_ne iY.1 c25
        have ho : oSystem M xa xb = (0, nI (stgTo (sY M) (ix xa) (ix xb) (sY M).1), wY M ((sY M).1 + 1, nu (sY M).2.1 (sY M).1 (ix xa), nu (sY M).2.2.1 (sY M).1 (ix xb), nu (sY M).2.2.2 (sY M).1 (stgTo (sY M) (ix xa) (ix xb) (sY M).1))) := (if_neg hno).trans (if_neg c25)
        obtain ⟨kx, hkx, rfl⟩ := isS_of c5
        obtain ⟨ky, hky, rfl⟩ := isS_of c12
        have hl : lv_has ls 4 [(0, .ref g), (1, .int (nI kx)), (2, .int (nI ky))] := hl
        refine lv_iconst (v := nI 0) hx hb dX7_system_32 (by decide) ?_
        refine m_put0 (v := (nI 0)) hx hb hts in_X7_system_RX7 hown hK hS hR (hts (.fieldLink RX7 77 "ArcheloftModel" "thrown" "I") (by decide +kernel)) dX7_system_33 (fun H4 locs4 hR hS => ?_)
        refine lv_aload_n hx hb dX7_system_36 rfl (lv_at hl 0 rfl) ?_
        refine m_get hx hb hts in_X7_system_RX7 hown hK hR 0 (by decide) (hts (.fieldLink RX7 77 "ArcheloftModel" "thrown" "I") (by decide +kernel)) rfl (v := .int (nI 0)) rfl dX7_system_37 ?_
        refine y_if_le hx hb (by decide) (tgt := 45) dX7_system_40 (by decide) (fun c40 => ?_) (fun c40 => ?_)
        · refine lv_aload_n hx hb dX7_system_45 rfl (lv_at hl 0 rfl) ?_
          refine m_get hx hb hts in_X7_system_RX7 hown hK hR 26 (by decide) (hts (.fieldLink RX7 65 "ArcheloftModel" "reads" "[I") (by decide +kernel)) rfl (v := .ref (g + 19)) rfl dX7_system_46 ?_
          refine lv_aload_n hx hb dX7_system_49 rfl (lv_at hl 0 rfl) ?_
          refine m_get hx hb hts in_X7_system_RX7 hown hK hR 29 (by decide) (hts (.fieldLink RX7 171 "ArcheloftModel" "systems" "I") (by decide +kernel)) rfl (v := .int (S 29)) rfl dX7_system_50 ?_
          refine x_top (y := (nI ((sY M).1))) (hY.1) ?_
          refine lv_iload_n hx hb dX7_system_53 rfl (lv_at hl 1 rfl) ?_
          refine m_st19 (i := (sY M).1) (v := (nI kx)) hx hb hK hS hR (by omega) dX7_system_54 (fun H5 locs5 hR hS => ?_)
          refine lv_aload_n hx hb dX7_system_55 rfl (lv_at hl 0 rfl) ?_
          refine m_get hx hb hts in_X7_system_RX7 hown hK hR 27 (by decide) (hts (.fieldLink RX7 68 "ArcheloftModel" "writes" "[I") (by decide +kernel)) rfl (v := .ref (g + 20)) rfl dX7_system_56 ?_
          refine lv_aload_n hx hb dX7_system_59 rfl (lv_at hl 0 rfl) ?_
          refine m_get hx hb hts in_X7_system_RX7 hown hK hR 29 (by decide) (hts (.fieldLink RX7 171 "ArcheloftModel" "systems" "I") (by decide +kernel)) rfl (v := .int (S 29)) rfl dX7_system_60 ?_
          refine x_top (y := (nI ((sY M).1))) (hY.1) ?_
          refine lv_iload_n hx hb dX7_system_63 rfl (lv_at hl 2 rfl) ?_
          refine m_st20 (i := (sY M).1) (v := (nI ky)) hx hb hK hS hR (by omega) dX7_system_64 (fun H6 locs6 hR hS => ?_)
          refine lv_aload_n hx hb dX7_system_65 rfl (lv_at hl 0 rfl) ?_
          refine m_get hx hb hts in_X7_system_RX7 hown hK hR 28 (by decide) (hts (.fieldLink RX7 71 "ArcheloftModel" "stage" "[I") (by decide +kernel)) rfl (v := .ref (g + 21)) rfl dX7_system_66 ?_
          refine lv_aload_n hx hb dX7_system_69 rfl (lv_at hl 0 rfl) ?_
          refine m_get hx hb hts in_X7_system_RX7 hown hK hR 29 (by decide) (hts (.fieldLink RX7 171 "ArcheloftModel" "systems" "I") (by decide +kernel)) rfl (v := .int (S 29)) rfl dX7_system_70 ?_
          refine x_top (y := (nI ((sY M).1))) (hY.1) ?_
          refine lv_iconst (v := nI 0) hx hb dX7_system_73 (by decide) ?_
          refine m_st21 (i := (sY M).1) (v := (nI 0)) hx hb hK hS hR (by omega) dX7_system_74 (fun H7 locs7 hR hS => ?_)
          refine lv_iconst (v := nI 0) hx hb dX7_system_75 (by decide) ?_
          refine lv_istore_n (lv' := [(3, .int (nI 0)), (0, .ref g), (1, .int (nI kx)), (2, .int (nI ky))]) hx hb dX7_system_76 rfl hl (by decide) rfl (fun ls hl => ?_)
          have loop77 : ∀ (n : Nat) (i : Nat) (F : Nat → Int32) (H9 : Heap) (locs9 : List Loc), (sY M).1 - i < n → (i ≤ (sY M).1) → (F (sY M).1 = nI (stgTo (sY M) kx ky i)) → (∀ x, ¬ x = (sY M).1 → F x = Y 21 x) → (RM D T g (upd S 0 (nI 0)) (up2 (up2 (up2 Y 19 (upd (Y 19) (sY M).1 (nI kx))) 20 (upd (Y 20) (sY M).1 (nI ky))) 21 F) H9) → (va_S (AM g) s.heap H9 locs9) → ∀ (ls : Array Slot), lv_has ls 4 [(3, .int (nI i)), (0, .ref g), (1, .int (nI kx)), (2, .int (nI ky))] → W p l e (rmL 1 0 0) s m args below meth c H9 locs9 (0) (0) (vx_MQ below (QI (AM g) (fun r H1 => PM D T g (oSystem M (nI kx) (nI ky)) r H1)) (XX (AM g) (XN)) args s 0 0 (AM g)) (F0 m 77 ls []) := by
            intro n
            induction n with
            | zero => intro i F H9 locs9 hfuel; exact absurd hfuel (Nat.not_lt_zero _)
            | succ n ih77 =>
              intro i F H9 locs9 hfuel hi hFn hFo hR hS ls hl
              refine lv_iload_n hx hb dX7_system_77 rfl (lv_at hl 0 rfl) ?_
              refine lv_aload_n hx hb dX7_system_78 rfl (lv_at hl 1 rfl) ?_
              refine m_get hx hb hts in_X7_system_RX7 hown hK hR 29 (by decide) (hts (.fieldLink RX7 171 "ArcheloftModel" "systems" "I") (by decide +kernel)) rfl (v := .int (S 29)) rfl dX7_system_79 ?_
              refine x_top (y := (nI ((sY M).1))) (hY.1) ?_
              refine y_icmp_ge hx hb (by omega) (by omega) (tgt := 150) dX7_system_82 (by decide) (fun c82 => ?_) (fun c82 => ?_)
              · have ei : i = (sY M).1 := by omega
                refine lv_aload_n hx hb dX7_system_150 rfl (lv_at hl 1 rfl) ?_
                refine lv_dup hx hb dX7_system_151 rfl ?_
                refine m_get hx hb hts in_X7_system_RX7 hown hK hR 29 (by decide) (hts (.fieldLink RX7 171 "ArcheloftModel" "systems" "I") (by decide +kernel)) rfl (v := .int (S 29)) rfl dX7_system_152 ?_
                refine x_top (y := (nI ((sY M).1))) (hY.1) ?_
                refine lv_iconst (v := nI 1) hx hb dX7_system_155 (by decide) ?_
                refine y_iadd hx hb dX7_system_156 ?_
                refine m_put29 (v := (nI (((sY M).1) + 1))) hx hb hts in_X7_system_RX7 hown hK hS hR (hts (.fieldLink RX7 171 "ArcheloftModel" "systems" "I") (by decide +kernel)) dX7_system_157 (fun H8 locs8 hR hS => ?_)
                refine lv_aload_n hx hb dX7_system_160 rfl (lv_at hl 1 rfl) ?_
                refine m_get hx hb hts in_X7_system_RX7 hown hK hR 28 (by decide) (hts (.fieldLink RX7 71 "ArcheloftModel" "stage" "[I") (by decide +kernel)) rfl (v := .ref (g + 21)) rfl dX7_system_161 ?_
                refine lv_aload_n hx hb dX7_system_164 rfl (lv_at hl 1 rfl) ?_
                refine m_get hx hb hts in_X7_system_RX7 hown hK hR 29 (by decide) (hts (.fieldLink RX7 171 "ArcheloftModel" "systems" "I") (by decide +kernel)) rfl (v := .int (nI (((sY M).1) + 1))) rfl dX7_system_165 ?_
                refine lv_iconst (v := nI 1) hx hb dX7_system_168 (by decide) ?_
                refine y_isub hx hb (by omega) dX7_system_169 ?_
                refine m_ld21 (i := (((sY M).1) + 1) - 1) hx hb hK hR (by omega) dX7_system_170 ?_
                refine x_top (y := (nI ((stgTo (sY M) kx ky (sY M).1)))) (by rw [Nat.add_sub_cancel]; exact hFn.trans (by rw [ei])) ?_
                exact r_i hx hb hrt9 hlk hS (Nat.le_of_ble_eq_true rfl) (Nat.le_of_ble_eq_true rfl) dX7_system_171 (by
                      rw [ho, ix_nI (by omega), ix_nI (by omega)]
                      refine PM.ok hR ⟨hT, hE.cong (fun j hj => by simp only [up2]; rw [if_neg (by omega), if_neg (by omega), if_neg (by omega)]), hRw.cong rfl (fun j h1 h2 => by simp only [up2]; rw [if_neg (by omega), if_neg (by omega), if_neg (by omega)]), hQ.cong rfl (fun j h1 h2 => by simp only [up2]; rw [if_neg (by omega), if_neg (by omega), if_neg (by omega)]), hW.cong (fun j h1 h2 => by simp only [upd]; rw [if_neg (by omega), if_neg (by omega)]) (fun j h1 h2 => by simp only [up2]; rw [if_neg (by omega), if_neg (by omega), if_neg (by omega)]) (fun _ _ _ => rfl), ⟨rfl, fun i2 hi2 => ?_⟩⟩ rfl rfl
                      have hi2 : i2 < (sY M).1 + 1 := hi2
                      show (if i2 = (sY M).1 then nI kx else Y 19 i2) = nI (nu (sY M).2.1 (sY M).1 kx i2) ∧ (if i2 = (sY M).1 then nI ky else Y 20 i2) = nI (nu (sY M).2.2.1 (sY M).1 ky i2) ∧ F i2 = nI (nu (sY M).2.2.2 (sY M).1 (stgTo (sY M) kx ky (sY M).1) i2)
                      by_cases ci : i2 = (sY M).1
                      · rw [if_pos ci, if_pos ci, ci, nu_s, nu_s, nu_s]; exact ⟨rfl, rfl, hFn.trans (by rw [ei])⟩
                      · rw [if_neg ci, if_neg ci, nu_n ci, nu_n ci, nu_n ci, hFo i2 ci]; exact hY.2 i2 (by omega))
              · obtain ⟨q19, q20, q21⟩ := hY.2 i c82
                obtain ⟨z19, z20, z21⟩ := iY.2 i c82
                have nin : ¬ i = (sY M).1 := by omega
                have hsle := stgTo_le iY (rd := kx) (wr := ky) i hi
                refine lv_aload_n hx hb dX7_system_85 rfl (lv_at hl 1 rfl) ?_
                refine m_get hx hb hts in_X7_system_RX7 hown hK hR 28 (by decide) (hts (.fieldLink RX7 71 "ArcheloftModel" "stage" "[I") (by decide +kernel)) rfl (v := .ref (g + 21)) rfl dX7_system_86 ?_
                refine lv_aload_n hx hb dX7_system_89 rfl (lv_at hl 1 rfl) ?_
                refine m_get hx hb hts in_X7_system_RX7 hown hK hR 29 (by decide) (hts (.fieldLink RX7 171 "ArcheloftModel" "systems" "I") (by decide +kernel)) rfl (v := .int (S 29)) rfl dX7_system_90 ?_
                refine x_top (y := (nI ((sY M).1))) (hY.1) ?_
                refine lv_aload_n hx hb dX7_system_93 rfl (lv_at hl 1 rfl) ?_
                refine lv_aload_n hx hb dX7_system_94 rfl (lv_at hl 1 rfl) ?_
                refine m_get hx hb hts in_X7_system_RX7 hown hK hR 29 (by decide) (hts (.fieldLink RX7 171 "ArcheloftModel" "systems" "I") (by decide +kernel)) rfl (v := .int (S 29)) rfl dX7_system_95 ?_
                refine x_top (y := (nI ((sY M).1))) (hY.1) ?_
                refine lv_iload_n hx hb dX7_system_98 rfl (lv_at hl 0 rfl) ?_
                refine k_ip (k_V (As := [.int (nI ((sY M).1)), .int (nI i)]) (rest := [.int (nI ((sY M).1)), .ref (g + 21)]) ⟨hx, hb, hml, hown, hts⟩ hev hS (c_X7_bars l hR (i := (sY M).1) (j := i) (r1 := kx) (w1 := ky) (r2 := (sY M).2.1 i) (w2 := (sY M).2.2.1 i) (by omega) (by omega) (by simp [up2, upd]) (by simp [up2, upd]) (by rw [← q19]; simp [up2, upd, nin]) (by rw [← q20]; simp [up2, upd, nin]) hkx hky z19 z20) (cwV 2 hts gX7_system_X7_bars rfl rfl rfl (by decide +kernel) ⟨Nat.le_of_ble_eq_true rfl, Nat.le_of_ble_eq_true rfl⟩) (x_recv hK hR.1 rfl) rfl hl.1 (Nat.le_of_ble_eq_true rfl) dX7_system_99 (Nat.le_of_ble_eq_true rfl) (Nat.le_of_ble_eq_true rfl)) hS hnt hlk (fun _ _ h _ => h.elim) (Nat.le_of_ble_eq_true rfl) (Nat.le_of_ble_eq_true rfl) (fun rq9_ H9 locs9 hP hz9 hS => ?_)
                refine W.widen (k := 0) (n := 0) (Nat.le_refl _) (Nat.le_refl _) ?_
                have hR : RM D T g (upd S 0 (nI 0)) (up2 (up2 (up2 Y 19 (upd (Y 19) (sY M).1 (nI kx))) 20 (upd (Y 20) (sY M).1 (nI ky))) 21 F) H9 := by rw [hP.1]; exact hR
                have erb := hP.2
                refine x_top (y := (bI (barB kx ky ((sY M).2.1 i) ((sY M).2.2.1 i)))) (erb) ?_
                refine y_bif_eq hx hb (tgt := 134) dX7_system_102 (by decide) (fun c102 => ?_) (fun c102 => ?_)
                · refine lv_aload_n hx hb dX7_system_134 rfl (lv_at hl 1 rfl) ?_
                  refine m_get hx hb hts in_X7_system_RX7 hown hK hR 28 (by decide) (hts (.fieldLink RX7 71 "ArcheloftModel" "stage" "[I") (by decide +kernel)) rfl (v := .ref (g + 21)) rfl dX7_system_135 ?_
                  refine lv_aload_n hx hb dX7_system_138 rfl (lv_at hl 1 rfl) ?_
                  refine m_get hx hb hts in_X7_system_RX7 hown hK hR 29 (by decide) (hts (.fieldLink RX7 171 "ArcheloftModel" "systems" "I") (by decide +kernel)) rfl (v := .int (S 29)) rfl dX7_system_139 ?_
                  refine x_top (y := (nI ((sY M).1))) (hY.1) ?_
                  refine m_ld21 (i := (sY M).1) hx hb hK hR (by omega) dX7_system_142 ?_
                  refine x_top (y := (nI ((stgTo (sY M) kx ky i)))) (hFn) ?_
                  refine x_top (y := (nI ((stgTo (sY M) kx ky (i + 1))))) (by rw [stgTo_f (Or.inl c102)]) ?_
                  refine m_st21 (i := (sY M).1) (v := (nI ((stgTo (sY M) kx ky (i + 1))))) hx hb hK hS hR (by omega) dX7_system_143 (fun H10 locs10 hR hS => ?_)
                  refine lv_iinc (v := (nI (i + 1))) (lv' := [(3, .int (nI (i + 1))), (0, .ref g), (1, .int (nI kx)), (2, .int (nI ky))]) hx hb dX7_system_144 hl (k := 0) rfl (nI_inc _) (by decide) rfl (fun ls hl => ?_)
                  refine lv_goto (tgt := 77) hx hb dX7_system_147 (by decide) ?_
                  exact ih77 (i + 1) (upd F (sY M).1 (nI (stgTo (sY M) kx ky (i + 1)))) H10 locs10 (by omega) (by omega) (if_pos rfl) (fun x hx => (if_neg hx).trans (hFo x hx)) hR hS ls (lv_sub hl [0, 1, 2, 3] rfl)
                · refine lv_aload_n hx hb dX7_system_105 rfl (lv_at hl 1 rfl) ?_
                  refine m_get hx hb hts in_X7_system_RX7 hown hK hR 28 (by decide) (hts (.fieldLink RX7 71 "ArcheloftModel" "stage" "[I") (by decide +kernel)) rfl (v := .ref (g + 21)) rfl dX7_system_106 ?_
                  refine lv_iload_n hx hb dX7_system_109 rfl (lv_at hl 0 rfl) ?_
                  refine m_ld21 (i := i) hx hb hK hR (by omega) dX7_system_110 ?_
                  refine x_top (y := (nI ((sY M).2.2.2 i))) (by show F i = _; rw [hFo i nin]; exact q21) ?_
                  refine lv_aload_n hx hb dX7_system_111 rfl (lv_at hl 1 rfl) ?_
                  refine m_get hx hb hts in_X7_system_RX7 hown hK hR 28 (by decide) (hts (.fieldLink RX7 71 "ArcheloftModel" "stage" "[I") (by decide +kernel)) rfl (v := .ref (g + 21)) rfl dX7_system_112 ?_
                  refine lv_aload_n hx hb dX7_system_115 rfl (lv_at hl 1 rfl) ?_
                  refine m_get hx hb hts in_X7_system_RX7 hown hK hR 29 (by decide) (hts (.fieldLink RX7 171 "ArcheloftModel" "systems" "I") (by decide +kernel)) rfl (v := .int (S 29)) rfl dX7_system_116 ?_
                  refine x_top (y := (nI ((sY M).1))) (hY.1) ?_
                  refine m_ld21 (i := (sY M).1) hx hb hK hR (by omega) dX7_system_119 ?_
                  refine x_top (y := (nI ((stgTo (sY M) kx ky i)))) (hFn) ?_
                  refine y_icmp_lt hx hb (by omega) (by omega) (tgt := 134) dX7_system_120 (by decide) (fun c120 => ?_) (fun c120 => ?_)
                  · refine lv_aload_n hx hb dX7_system_134 rfl (lv_at hl 1 rfl) ?_
                    refine m_get hx hb hts in_X7_system_RX7 hown hK hR 28 (by decide) (hts (.fieldLink RX7 71 "ArcheloftModel" "stage" "[I") (by decide +kernel)) rfl (v := .ref (g + 21)) rfl dX7_system_135 ?_
                    refine lv_aload_n hx hb dX7_system_138 rfl (lv_at hl 1 rfl) ?_
                    refine m_get hx hb hts in_X7_system_RX7 hown hK hR 29 (by decide) (hts (.fieldLink RX7 171 "ArcheloftModel" "systems" "I") (by decide +kernel)) rfl (v := .int (S 29)) rfl dX7_system_139 ?_
                    refine x_top (y := (nI ((sY M).1))) (hY.1) ?_
                    refine m_ld21 (i := (sY M).1) hx hb hK hR (by omega) dX7_system_142 ?_
                    refine x_top (y := (nI ((stgTo (sY M) kx ky i)))) (hFn) ?_
                    refine x_top (y := (nI ((stgTo (sY M) kx ky (i + 1))))) (by rw [stgTo_f (Or.inr c120)]) ?_
                    refine m_st21 (i := (sY M).1) (v := (nI ((stgTo (sY M) kx ky (i + 1))))) hx hb hK hS hR (by omega) dX7_system_143 (fun H11 locs11 hR hS => ?_)
                    refine lv_iinc (v := (nI (i + 1))) (lv' := [(3, .int (nI (i + 1))), (0, .ref g), (1, .int (nI kx)), (2, .int (nI ky))]) hx hb dX7_system_144 hl (k := 0) rfl (nI_inc _) (by decide) rfl (fun ls hl => ?_)
                    refine lv_goto (tgt := 77) hx hb dX7_system_147 (by decide) ?_
                    exact ih77 (i + 1) (upd F (sY M).1 (nI (stgTo (sY M) kx ky (i + 1)))) H11 locs11 (by omega) (by omega) (if_pos rfl) (fun x hx => (if_neg hx).trans (hFo x hx)) hR hS ls (lv_sub hl [0, 1, 2, 3] rfl)
                  · refine lv_aload_n hx hb dX7_system_123 rfl (lv_at hl 1 rfl) ?_
                    refine m_get hx hb hts in_X7_system_RX7 hown hK hR 28 (by decide) (hts (.fieldLink RX7 71 "ArcheloftModel" "stage" "[I") (by decide +kernel)) rfl (v := .ref (g + 21)) rfl dX7_system_124 ?_
                    refine lv_iload_n hx hb dX7_system_127 rfl (lv_at hl 0 rfl) ?_
                    refine m_ld21 (i := i) hx hb hK hR (by omega) dX7_system_128 ?_
                    refine x_top (y := (nI ((sY M).2.2.2 i))) (by show F i = _; rw [hFo i nin]; exact q21) ?_
                    refine lv_iconst (v := nI 1) hx hb dX7_system_129 (by decide) ?_
                    refine y_iadd hx hb dX7_system_130 ?_
                    refine lv_goto (tgt := 143) hx hb dX7_system_131 (by decide) ?_
                    refine x_top (y := (nI ((stgTo (sY M) kx ky (i + 1))))) (by rw [stgTo_t c102 (Nat.not_lt.mpr c120)]) ?_
                    refine m_st21 (i := (sY M).1) (v := (nI ((stgTo (sY M) kx ky (i + 1))))) hx hb hK hS hR (by omega) dX7_system_143 (fun H12 locs12 hR hS => ?_)
                    refine lv_iinc (v := (nI (i + 1))) (lv' := [(3, .int (nI (i + 1))), (0, .ref g), (1, .int (nI kx)), (2, .int (nI ky))]) hx hb dX7_system_144 hl (k := 0) rfl (nI_inc _) (by decide) rfl (fun ls hl => ?_)
                    refine lv_goto (tgt := 77) hx hb dX7_system_147 (by decide) ?_
                    exact ih77 (i + 1) (upd F (sY M).1 (nI (stgTo (sY M) kx ky (i + 1)))) H12 locs12 (by omega) (by omega) (if_pos rfl) (fun x hx => (if_neg hx).trans (hFo x hx)) hR hS ls (lv_sub hl [0, 1, 2, 3] rfl)
          exact loop77 (((sY M).1 - 0) + 1) 0 (upd (Y 21) (sY M).1 (nI 0)) H7 locs7 (Nat.lt_succ_self _) (Nat.zero_le _) (by simp [upd]; rfl) (fun x hx => if_neg hx) hR hS ls (lv_sub hl [0, 1, 2, 3] rfl)
        · exact absurd c40 (by decide)
      · have ho : oSystem M xa xb = oErr M 2 := (if_neg hno).trans (if_pos c25)
        refine lv_iconst (v := nI 2) hx hb dX7_system_28 (by decide) ?_
        refine lv_goto (tgt := 33) hx hb dX7_system_29 (by decide) ?_
        refine m_put0 (v := (nI 2)) hx hb hts in_X7_system_RX7 hown hK hS hR (hts (.fieldLink RX7 77 "ArcheloftModel" "thrown" "I") (by decide +kernel)) dX7_system_33 (fun H13 locs13 hR hS => ?_)
        refine lv_aload_n hx hb dX7_system_36 rfl (lv_at hl 0 rfl) ?_
        refine m_get hx hb hts in_X7_system_RX7 hown hK hR 0 (by decide) (hts (.fieldLink RX7 77 "ArcheloftModel" "thrown" "I") (by decide +kernel)) rfl (v := .int (nI 2)) rfl dX7_system_37 ?_
        refine y_if_le hx hb (by decide) (tgt := 45) dX7_system_40 (by decide) (fun c40 => ?_) (fun c40 => ?_)
        · exact absurd c40 (by decide)
        · refine lv_iconst (v := nI 0) hx hb dX7_system_43 (by decide) ?_
          exact r_i hx hb hrt9 hlk hS (Nat.le_of_ble_eq_true rfl) (Nat.le_of_ble_eq_true rfl) dX7_system_44 (by rw [ho]; exact PM.err (by decide) hR hM rfl)
    · have ho : oSystem M xa xb = oErr M 1 := if_pos (Or.inr c12)
      refine lv_iconst (v := nI 1) hx hb dX7_system_15 (by decide) ?_
      refine lv_goto (tgt := 33) hx hb dX7_system_16 (by decide) ?_
      refine m_put0 (v := (nI 1)) hx hb hts in_X7_system_RX7 hown hK hS hR (hts (.fieldLink RX7 77 "ArcheloftModel" "thrown" "I") (by decide +kernel)) dX7_system_33 (fun H14 locs14 hR hS => ?_)
      refine lv_aload_n hx hb dX7_system_36 rfl (lv_at hl 0 rfl) ?_
      refine m_get hx hb hts in_X7_system_RX7 hown hK hR 0 (by decide) (hts (.fieldLink RX7 77 "ArcheloftModel" "thrown" "I") (by decide +kernel)) rfl (v := .int (nI 1)) rfl dX7_system_37 ?_
      refine y_if_le hx hb (by decide) (tgt := 45) dX7_system_40 (by decide) (fun c40 => ?_) (fun c40 => ?_)
      · exact absurd c40 (by decide)
      · refine lv_iconst (v := nI 0) hx hb dX7_system_43 (by decide) ?_
        exact r_i hx hb hrt9 hlk hS (Nat.le_of_ble_eq_true rfl) (Nat.le_of_ble_eq_true rfl) dX7_system_44 (by rw [ho]; exact PM.err (by decide) hR hM rfl)
set_option maxRecDepth 100000 in
theorem in_X7_stage_RX7 : ∀ w ∈ wsX70, w ∈ wsX7_stage := by decide +kernel
set_option maxHeartbeats 4000000 in
set_option maxRecDepth 100000 in
theorem c_X7_stage (l : Launch) {D : va_G} {T : Nat → ClassId} {dE mi : Nat} {g : Nat} {S : Nat → Int32} {Y : Nat → Nat → Int32} {H : Heap} (hR : RM D T g S Y H) {M : mSt} (hM : Rel S Y M) {b : Nat} (hI : Inv b M) (x : Int32) : vx_Met l yX7_stage wsX7_stage (rmL 1 0 0) (PcE D T dE mi (AM g) H [.ref g, .int x]) (QI (AM g) (fun r H1 => PM D T g (oStage M x) r H1)) (XX (AM g) (XN)) 0 0 (AM g) := by
  refine entry (cc := cX7_stage) (maxL := 2) (ret := (some .int)) (by decide) rfl (Nat.le_of_ble_eq_true rfl) ?_
  intro p e s m args below meth c hx hb hrt9 hml hown hts hlk hnt hnm hev hS ls hl
  have hown : s.vm.findClass RX7 = some m.cls := hown
  have hK := hev.1
  have hl : lv_has ls 2 [(0, .ref g), (1, .int x)] := hl
  obtain ⟨hT, hE, hRw, hQ, hW, hY⟩ := id hM
  obtain ⟨iE, iR, iQ, iW, iY, hb9, hh⟩ := id hI
  have hb0 : b ≤ 1000000 := Nat.le_trans hb9 (by decide)
  have h88 := iY.1
  refine lv_aload_n hx hb dX7_stage_0 rfl (lv_at hl 0 rfl) ?_
  refine lv_iload_n hx hb dX7_stage_1 rfl (lv_at hl 1 rfl) ?_
  refine lv_aload_n hx hb dX7_stage_2 rfl (lv_at hl 0 rfl) ?_
  refine m_get hx hb hts in_X7_stage_RX7 hown hK hR 29 (by decide) (hts (.fieldLink RX7 171 "ArcheloftModel" "systems" "I") (by decide +kernel)) rfl (v := .int (S 29)) rfl dX7_stage_3 ?_
  refine x_top (y := (nI ((sY M).1))) (hY.1) ?_
  refine k_ip (k_V (As := [.int x, .int (nI ((sY M).1))]) (rest := []) ⟨hx, hb, hml, hown, hts⟩ hev hS (c_X7_isIn l hR (x)) (cwV 2 hts gX7_stage_X7_isIn rfl rfl rfl (by decide +kernel) ⟨Nat.le_of_ble_eq_true rfl, Nat.le_of_ble_eq_true rfl⟩) (x_recv hK hR.1 rfl) rfl hl.1 (Nat.le_of_ble_eq_true rfl) dX7_stage_6 (Nat.le_of_ble_eq_true rfl) (Nat.le_of_ble_eq_true rfl)) hS hnt hlk (fun _ _ h _ => h.elim) (Nat.le_of_ble_eq_true rfl) (Nat.le_of_ble_eq_true rfl) (fun rq1_ H1 locs1 hP hz1 hS => ?_)
  refine W.widen (k := 0) (n := 0) (Nat.le_refl _) (Nat.le_refl _) ?_
  obtain ⟨b1, hb1, erb1, hR⟩ := hP
  refine x_top (y := (bI b1)) (erb1) ?_
  refine y_bif_eq hx hb (tgt := 21) dX7_stage_9 (by decide) (fun c9 => ?_) (fun c9 => ?_)
  · rw [c9] at hb1 hR
    have ho : oStage M x = oErr M 1 := if_neg (by rw [← hb1]; decide)
    refine lv_iconst (v := nI 0) hx hb dX7_stage_21 (by decide) ?_
    exact r_i hx hb hrt9 hlk hS (Nat.le_of_ble_eq_true rfl) (Nat.le_of_ble_eq_true rfl) dX7_stage_22 (by rw [ho]; exact PM.err (by decide) hR hM rfl)
  · rw [c9] at hb1 hR
    obtain ⟨j1, hj1, rfl⟩ := inB_of (by omega) hb1.symm
    have hl : lv_has ls 2 [(0, .ref g), (1, .int (nI j1))] := hl
    have ho : oStage M (nI j1) = oRet M (nI ((sY M).2.2.2 j1)) := by unfold oStage; rw [ix_nI (by omega)]; exact if_pos hb1.symm
    refine lv_aload_n hx hb dX7_stage_12 rfl (lv_at hl 0 rfl) ?_
    refine m_get hx hb hts in_X7_stage_RX7 hown hK hR 28 (by decide) (hts (.fieldLink RX7 71 "ArcheloftModel" "stage" "[I") (by decide +kernel)) rfl (v := .ref (g + 21)) rfl dX7_stage_13 ?_
    refine lv_iload_n hx hb dX7_stage_16 rfl (lv_at hl 1 rfl) ?_
    refine m_ld21 (i := j1) hx hb hK hR (by omega) dX7_stage_17 ?_
    refine x_top (y := (nI ((sY M).2.2.2 j1))) ((hY.2 j1 hj1).2.2) ?_
    refine lv_goto (tgt := 22) hx hb dX7_stage_18 (by decide) ?_
    exact r_i hx hb hrt9 hlk hS (Nat.le_of_ble_eq_true rfl) (Nat.le_of_ble_eq_true rfl) dX7_stage_22 (by rw [ho]; exact PM.ret hR hM rfl rfl)
set_option maxRecDepth 100000 in
theorem in_X7_manyStages_RX7 : ∀ w ∈ wsX70, w ∈ wsX7_manyStages := by decide +kernel
set_option maxHeartbeats 4000000 in
set_option maxRecDepth 100000 in
theorem c_X7_manyStages (l : Launch) {D : va_G} {T : Nat → ClassId} {dE mi : Nat} {g : Nat} {S : Nat → Int32} {Y : Nat → Nat → Int32} {H : Heap} (hR : RM D T g S Y H) {Z : mQ} (hZ : RelY S Y Z) (iZ : InvY Z) : vx_Met l yX7_manyStages wsX7_manyStages (rmL 0 0 0) (PcE D T dE mi (AM g) H [.ref g]) (QI (AM g) (fun r H1 => H1 = H ∧ r = nI (stgs Z Z.1))) (XX (AM g) (XN)) 0 0 (AM g) := by
  refine entry (cc := cX7_manyStages) (maxL := 3) (ret := (some .int)) (by decide) rfl (Nat.le_of_ble_eq_true rfl) ?_
  intro p e s m args below meth c hx hb hrt9 hml hown hts hlk hnt hnm hev hS ls hl
  have hown : s.vm.findClass RX7 = some m.cls := hown
  have hK := hev.1
  have hl : lv_has ls 3 [(0, .ref g)] := hl
  have h88 := iZ.1
  refine lv_iconst (v := nI 0) hx hb dX7_manyStages_0 (by decide) ?_
  refine lv_istore_n (lv' := [(1, .int (nI 0)), (0, .ref g)]) hx hb dX7_manyStages_1 rfl hl (by decide) rfl (fun ls hl => ?_)
  refine lv_iconst (v := nI 0) hx hb dX7_manyStages_2 (by decide) ?_
  refine lv_istore_n (lv' := [(2, .int (nI 0)), (1, .int (nI 0)), (0, .ref g)]) hx hb dX7_manyStages_3 rfl hl (by decide) rfl (fun ls hl => ?_)
  have loop4 : ∀ (n : Nat) (i : Nat), Z.1 - i < n → (i ≤ Z.1) → ∀ (ls : Array Slot), lv_has ls 3 [(2, .int (nI i)), (1, .int (nI (stgs Z i))), (0, .ref g)] → W p l e (rmL 0 0 0) s m args below meth c H [] (0) (0) (vx_MQ below (QI (AM g) (fun r H1 => H1 = H ∧ r = nI (stgs Z Z.1))) (XX (AM g) (XN)) args s 0 0 (AM g)) (F0 m 4 ls []) := by
    intro n
    induction n with
    | zero => intro i hfuel; exact absurd hfuel (Nat.not_lt_zero _)
    | succ n ih4 =>
      intro i hfuel hi ls hl
      refine lv_iload_n hx hb dX7_manyStages_4 rfl (lv_at hl 0 rfl) ?_
      refine lv_aload_n hx hb dX7_manyStages_5 rfl (lv_at hl 2 rfl) ?_
      refine m_get hx hb hts in_X7_manyStages_RX7 hown hK hR 29 (by decide) (hts (.fieldLink RX7 171 "ArcheloftModel" "systems" "I") (by decide +kernel)) rfl (v := .int (S 29)) rfl dX7_manyStages_6 ?_
      refine x_top (y := (nI Z.1)) (hZ.1) ?_
      refine y_icmp_ge hx hb (by omega) (by omega) (tgt := 43) dX7_manyStages_9 (by decide) (fun c9 => ?_) (fun c9 => ?_)
      · refine lv_iload_n hx hb dX7_manyStages_43 rfl (lv_at hl 1 rfl) ?_
        exact r_i hx hb hrt9 hlk hS (Nat.le_of_ble_eq_true rfl) (Nat.le_of_ble_eq_true rfl) dX7_manyStages_44 (⟨rfl, by rw [show i = Z.1 by omega]⟩)
      · have q21 := (hZ.2 i c9).2.2
        have z21 := (iZ.2 i c9).2.2
        have hsle := stgs_le iZ i hi
        refine lv_aload_n hx hb dX7_manyStages_12 rfl (lv_at hl 2 rfl) ?_
        refine m_get hx hb hts in_X7_manyStages_RX7 hown hK hR 28 (by decide) (hts (.fieldLink RX7 71 "ArcheloftModel" "stage" "[I") (by decide +kernel)) rfl (v := .ref (g + 21)) rfl dX7_manyStages_13 ?_
        refine lv_iload_n hx hb dX7_manyStages_16 rfl (lv_at hl 0 rfl) ?_
        refine m_ld21 (i := i) hx hb hK hR (by omega) dX7_manyStages_17 ?_
        refine x_top (y := (nI (Z.2.2.2 i))) (q21) ?_
        refine lv_iconst (v := nI 1) hx hb dX7_manyStages_18 (by decide) ?_
        refine y_iadd hx hb dX7_manyStages_19 ?_
        refine lv_iload_n hx hb dX7_manyStages_20 rfl (lv_at hl 1 rfl) ?_
        refine y_icmp_le hx hb (by omega) (by omega) (tgt := 35) dX7_manyStages_21 (by decide) (fun c21 => ?_) (fun c21 => ?_)
        · refine lv_iload_n hx hb dX7_manyStages_35 rfl (lv_at hl 1 rfl) ?_
          refine x_top (y := (nI (stgs Z (i + 1)))) (by rw [stgs_f c21]) ?_
          refine lv_istore_n (lv' := [(1, .int (nI (stgs Z (i + 1)))), (2, .int (nI i)), (0, .ref g)]) hx hb dX7_manyStages_36 rfl hl (by decide) rfl (fun ls hl => ?_)
          refine lv_iinc (v := (nI (i + 1))) (lv' := [(2, .int (nI (i + 1))), (1, .int (nI (stgs Z (i + 1)))), (0, .ref g)]) hx hb dX7_manyStages_37 hl (k := 1) rfl (nI_inc _) (by decide) rfl (fun ls hl => ?_)
          refine lv_goto (tgt := 4) hx hb dX7_manyStages_40 (by decide) ?_
          exact ih4 (i + 1) (by omega) (by omega) ls (lv_sub hl [0, 1, 2] rfl)
        · refine lv_aload_n hx hb dX7_manyStages_24 rfl (lv_at hl 2 rfl) ?_
          refine m_get hx hb hts in_X7_manyStages_RX7 hown hK hR 28 (by decide) (hts (.fieldLink RX7 71 "ArcheloftModel" "stage" "[I") (by decide +kernel)) rfl (v := .ref (g + 21)) rfl dX7_manyStages_25 ?_
          refine lv_iload_n hx hb dX7_manyStages_28 rfl (lv_at hl 0 rfl) ?_
          refine m_ld21 (i := i) hx hb hK hR (by omega) dX7_manyStages_29 ?_
          refine x_top (y := (nI (Z.2.2.2 i))) (q21) ?_
          refine lv_iconst (v := nI 1) hx hb dX7_manyStages_30 (by decide) ?_
          refine y_iadd hx hb dX7_manyStages_31 ?_
          refine lv_goto (tgt := 36) hx hb dX7_manyStages_32 (by decide) ?_
          refine x_top (y := (nI (stgs Z (i + 1)))) (by rw [stgs_t (Nat.not_le.mpr c21)]) ?_
          refine lv_istore_n (lv' := [(1, .int (nI (stgs Z (i + 1)))), (2, .int (nI i)), (0, .ref g)]) hx hb dX7_manyStages_36 rfl hl (by decide) rfl (fun ls hl => ?_)
          refine lv_iinc (v := (nI (i + 1))) (lv' := [(2, .int (nI (i + 1))), (1, .int (nI (stgs Z (i + 1)))), (0, .ref g)]) hx hb dX7_manyStages_37 hl (k := 1) rfl (nI_inc _) (by decide) rfl (fun ls hl => ?_)
          refine lv_goto (tgt := 4) hx hb dX7_manyStages_40 (by decide) ?_
          exact ih4 (i + 1) (by omega) (by omega) ls (lv_sub hl [0, 1, 2] rfl)
  exact loop4 ((Z.1 - 0) + 1) 0 (Nat.lt_succ_self _) (Nat.zero_le _) ls (lv_sub hl [0, 1, 2] rfl)
set_option maxRecDepth 100000 in
theorem in_X7_stages_RX7 : ∀ w ∈ wsX70, w ∈ wsX7_stages := by decide +kernel
set_option maxHeartbeats 4000000 in
set_option maxRecDepth 100000 in
theorem c_X7_stages (l : Launch) {D : va_G} {T : Nat → ClassId} {dE mi : Nat} {g : Nat} {S : Nat → Int32} {Y : Nat → Nat → Int32} {H : Heap} (hR : RM D T g S Y H) {M : mSt} (hM : Rel S Y M) {b : Nat} (hI : Inv b M) : vx_Met l yX7_stages wsX7_stages (rmL 1 0 0) (PcE D T dE mi (AM g) H [.ref g]) (QI (AM g) (fun r H1 => PM D T g (oStages M) r H1)) (XX (AM g) (XN)) 0 0 (AM g) := by
  refine entry (cc := cX7_stages) (maxL := 1) (ret := (some .int)) (by decide) rfl (Nat.le_of_ble_eq_true rfl) ?_
  intro p e s m args below meth c hx hb hrt9 hml hown hts hlk hnt hnm hev hS ls hl
  have hown : s.vm.findClass RX7 = some m.cls := hown
  have hK := hev.1
  have hl : lv_has ls 1 [(0, .ref g)] := hl
  obtain ⟨hT, hE, hRw, hQ, hW, hY⟩ := id hM
  obtain ⟨iE, iR, iQ, iW, iY, hb9, hh⟩ := id hI
  have hb0 : b ≤ 1000000 := Nat.le_trans hb9 (by decide)
  refine lv_aload_n hx hb dX7_stages_0 rfl (lv_at hl 0 rfl) ?_
  refine lv_iconst (v := nI 0) hx hb dX7_stages_1 (by decide) ?_
  refine m_put0 (v := (nI 0)) hx hb hts in_X7_stages_RX7 hown hK hS hR (hts (.fieldLink RX7 77 "ArcheloftModel" "thrown" "I") (by decide +kernel)) dX7_stages_2 (fun H1 locs1 hR hS => ?_)
  refine lv_aload_n hx hb dX7_stages_5 rfl (lv_at hl 0 rfl) ?_
  refine k_ip (k_V (As := []) (rest := []) ⟨hx, hb, hml, hown, hts⟩ hev hS (c_X7_manyStages l hR (hY.cong rfl (fun _ _ _ => rfl)) iY) (cwV 0 hts gX7_stages_X7_manyStages rfl rfl rfl (by decide +kernel) ⟨Nat.le_of_ble_eq_true rfl, Nat.le_of_ble_eq_true rfl⟩) (x_recv hK hR.1 rfl) rfl hl.1 (Nat.le_of_ble_eq_true rfl) dX7_stages_6 (Nat.le_of_ble_eq_true rfl) (Nat.le_of_ble_eq_true rfl)) hS hnt hlk (fun _ _ h _ => h.elim) (Nat.le_of_ble_eq_true rfl) (Nat.le_of_ble_eq_true rfl) (fun rq2_ H2 locs2 hP hz2 hS => ?_)
  refine W.widen (k := 0) (n := 0) (Nat.le_refl _) (Nat.le_refl _) ?_
  have hR : RM D T g (upd S 0 (nI 0)) Y H2 := by rw [hP.1]; exact hR
  have er := hP.2
  exact r_i hx hb hrt9 hlk hS (Nat.le_of_ble_eq_true rfl) (Nat.le_of_ble_eq_true rfl) dX7_stages_9 (PM.ret hR hM rfl er)

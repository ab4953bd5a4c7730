set_option maxRecDepth 100000 in
theorem in_X6_couldDo_RX0 : ∀ w ∈ wsX00, w ∈ wsX6_couldDo := by decide +kernel
set_option maxHeartbeats 4000000 in
set_option maxRecDepth 100000 in
theorem c_X6_couldDo (l : Launch) {D : va_G} {T : Nat → ClassId} {dE mi : Nat} (hst : l.stackTraces = false) {A : Nat → Prop} {H : Heap} {b0 : Nat} {tg : Nat → Nat} {wo : Option Nat} {M : mSt} {y : mLy} (hC : Core D T dE b0 tg H A (sE M) (sR M) y wo (sT M)) (iE : InvE (sE M)) (iR : InvR (sE M) (sR M)) (hwo : wOn (sW M) = wo.isSome) (hbd : ∀ j, mHad (sE M) j ≤ 900000) (hwn : wo = none) {ca w : Nat} {hd kd v : Int32} (hcm : oc D H ca 3 [.int (nI w), .int hd, .int kd, .int v]) (hw4 : w < 4) : vx_Met l yX6_couldDo wsX6_couldDo (rmL 12 14 258) (PcE D T dE mi A H [.ref b0, .ref ca]) (QI A (fun r H1 => r = bI (doC (sE M) (sR M) (sT M) (nI w) hd kd v).1 ∧ Nxt D T dE b0 A tg H H1 (doC (sE M) (sR M) (sT M) (nI w) hd kd v).2.1 (doC (sE M) (sR M) (sT M) (nI w) hd kd v).2.2 wo (sT M))) (XX A (XN)) 14 258 A := by
  refine entryH (hh := [(0, 92, 95, 243), (0, 92, 98, 185), (0, 92, 101, 113)]) (cc := cX6_couldDo) (maxL := 3) (ret := (some .boolean)) (by decide) rfl (Nat.le_of_ble_eq_true rfl) ?_
  intro p e s m args below meth c hx hb hrt9 hml hown hts hlk htb hnm hev hS ls hl
  have hown : s.vm.findClass RX6 = some m.cls := hown
  have hK := hev.1
  have hl : lv_has ls 3 [(0, .ref b0), (1, .ref ca)] := hl
  obtain ⟨hT, hX, hE, hR⟩ := id hC
  refine lv_aload_n hx hb dX6_couldDo_0 rfl (lv_at hl 1 rfl) ?_
  refine x_getN (C := RX0) (TT := TX0) (N := 4) (ci := 3) (v := .int (nI w)) hx hb hts in_X6_couldDo_RX0 hown hK (hcm) rfl 0 (by decide) (hev.2.2.2.2.1.2 ("Archeloft", 262, "Archeloft$Command", "what", "I") (by decide +kernel)) (fun _ h9 => h9) rfl dX6_couldDo_1 ?_
  rcases (by omega : w = 0 ∨ w = 1 ∨ w = 2 ∨ w = 3) with hw | hw | hw | hw
  · subst hw
    refine x_top (y := (nI 0)) (rfl) ?_
    refine lv_tableIn (x := nI 0) (off := 28) (tgt := 32) hx hb dX6_couldDo_4 (by decide) (by decide) rfl (by decide) ?_
    refine lv_aload_n hx hb dX6_couldDo_32 rfl (lv_at hl 0 rfl) ?_
    refine lv_aload_n hx hb dX6_couldDo_33 rfl (lv_at hl 1 rfl) ?_
    refine x_getN (C := RX0) (TT := TX0) (N := 4) (ci := 3) (v := .int hd) hx hb hts in_X6_couldDo_RX0 hown hK (hcm) rfl 1 (by decide) (hev.2.2.2.2.1.2 ("Archeloft", 265, "Archeloft$Command", "handle", "I") (by decide +kernel)) (fun _ h9 => h9) rfl dX6_couldDo_34 ?_
    refine lv_aload_n hx hb dX6_couldDo_37 rfl (lv_at hl 1 rfl) ?_
    refine x_getN (C := RX0) (TT := TX0) (N := 4) (ci := 3) (v := .int kd) hx hb hts in_X6_couldDo_RX0 hown hK (hcm) rfl 2 (by decide) (hev.2.2.2.2.1.2 ("Archeloft", 266, "Archeloft$Command", "kind", "I") (by decide +kernel)) (fun _ h9 => h9) rfl dX6_couldDo_38 ?_
    refine lv_aload_n hx hb dX6_couldDo_41 rfl (lv_at hl 1 rfl) ?_
    refine x_getN (C := RX0) (TT := TX0) (N := 4) (ci := 3) (v := .int v) hx hb hts in_X6_couldDo_RX0 hown hK (hcm) rfl 3 (by decide) (hev.2.2.2.2.1.2 ("Archeloft", 269, "Archeloft$Command", "value", "I") (by decide +kernel)) (fun _ h9 => h9) rfl dX6_couldDo_42 ?_
    refine k_i (k_V (As := [.int hd, .int kd, .int v]) (rest := []) ⟨hx, hb, hml, hown, hts⟩ hev hS (c_X6_add l hst hC iE iR hwo hd kd v) (cwV 3 hts gX6_couldDo_X6_add rfl rfl rfl (by decide +kernel) ⟨Nat.le_of_ble_eq_true rfl, Nat.le_of_ble_eq_true rfl⟩) (x_recv hK hX.1 rfl) rfl hl.1 (Nat.le_of_ble_eq_true rfl) dX6_couldDo_45 (Nat.le_of_ble_eq_true rfl) (Nat.le_of_ble_eq_true rfl)) hS (fun E9 ce9 qx Hx locsx hx9 hzx hS h7 h8 h9 => ?_) (fun rq1_ H1 locs1 hP hz1 hS => ?_)
    · rcases hx9.1 with ⟨hE, hc9⟩ | ⟨hE, hc9⟩ | ⟨hE, hc9⟩
      · subst hE
        have hk7 := hx9.2
        have hC7 := hC.kp hk7
        have hd7 : doC (sE M) (sR M) (sT M) (nI 0) hd kd v = (false, sE M, sR M) := by rw [do_add (wo_n hwo hwn), decide_eq_false (by rw [hc9]; decide), add_same (by rw [hc9]; decide)]
        refine vx_catch (own := RX6) (name := "java/util/NoSuchElementException") (E := "java/util/NoSuchElementException") hown (tableOf []) ⟨0, 92, 95, 243⟩ (tableOf [(0, 92, 98, 185), (0, 92, 101, 113)]) (htb.trans rfl) PsR.nl (by decide) (by decide) (hts (.classLink RX6 243 "java/util/NoSuchElementException") (by decide +kernel)) (va_Nw.use rfl (hev.2.2.2.1 ("java/util/NoSuchElementException", "java/util/NoSuchElementException") (by decide +kernel))) h7 h8 h9 ?_
        refine lv_astore_n (lv' := [(2, .ref qx), (0, .ref b0), (1, .ref ca)]) hx hb dX6_couldDo_95 rfl hl (by decide) rfl (fun ls hl => ?_)
        refine lv_iconst (v := nI 0) hx hb dX6_couldDo_96 (by decide) ?_
        exact r_z hx hb hrt9 hlk hS (Nat.le_of_ble_eq_true rfl) (Nat.le_of_ble_eq_true rfl) dX6_couldDo_97 rfl (⟨by rw [hd7]; rfl, by rw [hd7]; exact ⟨tg, y, hC7, TX.rf, FR.kp hk7⟩⟩)
      · subst hE
        have hk7 := hx9.2
        have hC7 := hC.kp hk7
        have hd7 : doC (sE M) (sR M) (sT M) (nI 0) hd kd v = (false, sE M, sR M) := by rw [do_add (wo_n hwo hwn), decide_eq_false (by rw [hc9]; decide), add_same (by rw [hc9]; decide)]
        refine vx_catch (own := RX6) (name := "java/lang/IllegalArgumentException") (E := "java/lang/IllegalArgumentException") hown (tableOf [(0, 92, 95, 243)]) ⟨0, 92, 98, 185⟩ (tableOf [(0, 92, 101, 113)]) (htb.trans rfl) (PsR.cs (PsR.on (nm := "java/util/NoSuchElementException") (by decide) (hts (.classLink RX6 243 "java/util/NoSuchElementException") (by decide +kernel)) (hev.2.2.2.2.1.1.1 ("java/lang/IllegalArgumentException", "java/util/NoSuchElementException") (by decide +kernel))) PsR.nl) (by decide) (by decide) (hts (.classLink RX6 185 "java/lang/IllegalArgumentException") (by decide +kernel)) (va_Nw.use rfl (hev.2.2.2.1 ("java/lang/IllegalArgumentException", "java/lang/IllegalArgumentException") (by decide +kernel))) h7 h8 h9 ?_
        refine lv_astore_n (lv' := [(2, .ref qx), (0, .ref b0), (1, .ref ca)]) hx hb dX6_couldDo_98 rfl hl (by decide) rfl (fun ls hl => ?_)
        refine lv_iconst (v := nI 0) hx hb dX6_couldDo_99 (by decide) ?_
        exact r_z hx hb hrt9 hlk hS (Nat.le_of_ble_eq_true rfl) (Nat.le_of_ble_eq_true rfl) dX6_couldDo_100 rfl (⟨by rw [hd7]; rfl, by rw [hd7]; exact ⟨tg, y, hC7, TX.rf, FR.kp hk7⟩⟩)
      · subst hE
        have hk7 := hx9.2
        have hC7 := hC.kp hk7
        have hd7 : doC (sE M) (sR M) (sT M) (nI 0) hd kd v = (false, sE M, sR M) := by rw [do_add (wo_n hwo hwn), decide_eq_false (by rw [hc9]; decide), add_same (by rw [hc9]; decide)]
        refine vx_catch (own := RX6) (name := "java/lang/IllegalStateException") (E := "java/lang/IllegalStateException") hown (tableOf [(0, 92, 95, 243), (0, 92, 98, 185)]) ⟨0, 92, 101, 113⟩ (tableOf []) (htb.trans rfl) (PsR.cs (PsR.on (nm := "java/util/NoSuchElementException") (by decide) (hts (.classLink RX6 243 "java/util/NoSuchElementException") (by decide +kernel)) (hev.2.2.2.2.1.1.1 ("java/lang/IllegalStateException", "java/util/NoSuchElementException") (by decide +kernel))) (PsR.cs (PsR.on (nm := "java/lang/IllegalArgumentException") (by decide) (hts (.classLink RX6 185 "java/lang/IllegalArgumentException") (by decide +kernel)) (hev.2.2.2.2.1.1.1 ("java/lang/IllegalStateException", "java/lang/IllegalArgumentException") (by decide +kernel))) PsR.nl)) (by decide) (by decide) (hts (.classLink RX6 113 "java/lang/IllegalStateException") (by decide +kernel)) (va_Nw.use rfl (hev.2.2.2.1 ("java/lang/IllegalStateException", "java/lang/IllegalStateException") (by decide +kernel))) h7 h8 h9 ?_
        refine lv_astore_n (lv' := [(2, .ref qx), (0, .ref b0), (1, .ref ca)]) hx hb dX6_couldDo_101 rfl hl (by decide) rfl (fun ls hl => ?_)
        refine lv_iconst (v := nI 0) hx hb dX6_couldDo_102 (by decide) ?_
        exact r_z hx hb hrt9 hlk hS (Nat.le_of_ble_eq_true rfl) (Nat.le_of_ble_eq_true rfl) dX6_couldDo_103 rfl (⟨by rw [hd7]; rfl, by rw [hd7]; exact ⟨tg, y, hC7, TX.rf, FR.kp hk7⟩⟩)
    -- on
    obtain ⟨hz7, hr7, hn7⟩ := hP
    have hd7 : doC (sE M) (sR M) (sT M) (nI 0) hd kd v = (true, sE (oAdd M hd kd v).2.2, sR (oAdd M hd kd v).2.2) := by rw [do_add (wo_n hwo hwn), decide_eq_true hz7]
    refine lv_pop hx hb dX6_couldDo_48 rfl ?_
    refine lv_goto (tgt := 92) hx hb dX6_couldDo_49 (by decide) ?_
    refine lv_goto (tgt := 104) hx hb dX6_couldDo_92 (by decide) ?_
    refine lv_iconst (v := nI 1) hx hb dX6_couldDo_104 (by decide) ?_
    exact r_z hx hb hrt9 hlk hS (Nat.le_of_ble_eq_true rfl) (Nat.le_of_ble_eq_true rfl) dX6_couldDo_105 rfl (⟨by rw [hd7]; rfl, by rw [hd7]; exact hn7⟩)
  · subst hw
    refine x_top (y := (nI 1)) (rfl) ?_
    refine lv_tableIn (x := nI 1) (off := 48) (tgt := 52) hx hb dX6_couldDo_4 (by decide) (by decide) rfl (by decide) ?_
    refine lv_aload_n hx hb dX6_couldDo_52 rfl (lv_at hl 0 rfl) ?_
    refine lv_aload_n hx hb dX6_couldDo_53 rfl (lv_at hl 1 rfl) ?_
    refine x_getN (C := RX0) (TT := TX0) (N := 4) (ci := 3) (v := .int hd) hx hb hts in_X6_couldDo_RX0 hown hK (hcm) rfl 1 (by decide) (hev.2.2.2.2.1.2 ("Archeloft", 265, "Archeloft$Command", "handle", "I") (by decide +kernel)) (fun _ h9 => h9) rfl dX6_couldDo_54 ?_
    refine lv_aload_n hx hb dX6_couldDo_57 rfl (lv_at hl 1 rfl) ?_
    refine x_getN (C := RX0) (TT := TX0) (N := 4) (ci := 3) (v := .int kd) hx hb hts in_X6_couldDo_RX0 hown hK (hcm) rfl 2 (by decide) (hev.2.2.2.2.1.2 ("Archeloft", 266, "Archeloft$Command", "kind", "I") (by decide +kernel)) (fun _ h9 => h9) rfl dX6_couldDo_58 ?_
    refine k_i (k_V (As := [.int hd, .int kd]) (rest := []) ⟨hx, hb, hml, hown, hts⟩ hev hS (c_X6_take l hst hC iE iR hwo hd kd) (cwV 2 hts gX6_couldDo_X6_take rfl rfl rfl (by decide +kernel) ⟨Nat.le_of_ble_eq_true rfl, Nat.le_of_ble_eq_true rfl⟩) (x_recv hK hX.1 rfl) rfl hl.1 (Nat.le_of_ble_eq_true rfl) dX6_couldDo_61 (Nat.le_of_ble_eq_true rfl) (Nat.le_of_ble_eq_true rfl)) hS (fun E9 ce9 qx Hx locsx hx9 hzx hS h7 h8 h9 => ?_) (fun rq2_ H2 locs2 hP hz2 hS => ?_)
    · rcases hx9.1 with ⟨hE, hc9⟩ | ⟨hE, hc9⟩ | ⟨hE, hc9⟩
      · subst hE
        have hk7 := hx9.2
        have hC7 := hC.kp hk7
        have hd7 : doC (sE M) (sR M) (sT M) (nI 1) hd kd v = (false, sE M, sR M) := by rw [do_take (wo_n hwo hwn), decide_eq_false (by rw [hc9]; decide), take_same (by rw [hc9]; decide)]
        refine vx_catch (own := RX6) (name := "java/util/NoSuchElementException") (E := "java/util/NoSuchElementException") hown (tableOf []) ⟨0, 92, 95, 243⟩ (tableOf [(0, 92, 98, 185), (0, 92, 101, 113)]) (htb.trans rfl) PsR.nl (by decide) (by decide) (hts (.classLink RX6 243 "java/util/NoSuchElementException") (by decide +kernel)) (va_Nw.use rfl (hev.2.2.2.1 ("java/util/NoSuchElementException", "java/util/NoSuchElementException") (by decide +kernel))) h7 h8 h9 ?_
        refine lv_astore_n (lv' := [(2, .ref qx), (0, .ref b0), (1, .ref ca)]) hx hb dX6_couldDo_95 rfl hl (by decide) rfl (fun ls hl => ?_)
        refine lv_iconst (v := nI 0) hx hb dX6_couldDo_96 (by decide) ?_
        exact r_z hx hb hrt9 hlk hS (Nat.le_of_ble_eq_true rfl) (Nat.le_of_ble_eq_true rfl) dX6_couldDo_97 rfl (⟨by rw [hd7]; rfl, by rw [hd7]; exact ⟨tg, y, hC7, TX.rf, FR.kp hk7⟩⟩)
      · subst hE
        have hk7 := hx9.2
        have hC7 := hC.kp hk7
        have hd7 : doC (sE M) (sR M) (sT M) (nI 1) hd kd v = (false, sE M, sR M) := by rw [do_take (wo_n hwo hwn), decide_eq_false (by rw [hc9]; decide), take_same (by rw [hc9]; decide)]
        refine vx_catch (own := RX6) (name := "java/lang/IllegalArgumentException") (E := "java/lang/IllegalArgumentException") hown (tableOf [(0, 92, 95, 243)]) ⟨0, 92, 98, 185⟩ (tableOf [(0, 92, 101, 113)]) (htb.trans rfl) (PsR.cs (PsR.on (nm := "java/util/NoSuchElementException") (by decide) (hts (.classLink RX6 243 "java/util/NoSuchElementException") (by decide +kernel)) (hev.2.2.2.2.1.1.1 ("java/lang/IllegalArgumentException", "java/util/NoSuchElementException") (by decide +kernel))) PsR.nl) (by decide) (by decide) (hts (.classLink RX6 185 "java/lang/IllegalArgumentException") (by decide +kernel)) (va_Nw.use rfl (hev.2.2.2.1 ("java/lang/IllegalArgumentException", "java/lang/IllegalArgumentException") (by decide +kernel))) h7 h8 h9 ?_
        refine lv_astore_n (lv' := [(2, .ref qx), (0, .ref b0), (1, .ref ca)]) hx hb dX6_couldDo_98 rfl hl (by decide) rfl (fun ls hl => ?_)
        refine lv_iconst (v := nI 0) hx hb dX6_couldDo_99 (by decide) ?_
        exact r_z hx hb hrt9 hlk hS (Nat.le_of_ble_eq_true rfl) (Nat.le_of_ble_eq_true rfl) dX6_couldDo_100 rfl (⟨by rw [hd7]; rfl, by rw [hd7]; exact ⟨tg, y, hC7, TX.rf, FR.kp hk7⟩⟩)
      · subst hE
        have hk7 := hx9.2
        have hC7 := hC.kp hk7
        have hd7 : doC (sE M) (sR M) (sT M) (nI 1) hd kd v = (false, sE M, sR M) := by rw [do_take (wo_n hwo hwn), decide_eq_false (by rw [hc9]; decide), take_same (by rw [hc9]; decide)]
        refine vx_catch (own := RX6) (name := "java/lang/IllegalStateException") (E := "java/lang/IllegalStateException") hown (tableOf [(0, 92, 95, 243), (0, 92, 98, 185)]) ⟨0, 92, 101, 113⟩ (tableOf []) (htb.trans rfl) (PsR.cs (PsR.on (nm := "java/util/NoSuchElementException") (by decide) (hts (.classLink RX6 243 "java/util/NoSuchElementException") (by decide +kernel)) (hev.2.2.2.2.1.1.1 ("java/lang/IllegalStateException", "java/util/NoSuchElementException") (by decide +kernel))) (PsR.cs (PsR.on (nm := "java/lang/IllegalArgumentException") (by decide) (hts (.classLink RX6 185 "java/lang/IllegalArgumentException") (by decide +kernel)) (hev.2.2.2.2.1.1.1 ("java/lang/IllegalStateException", "java/lang/IllegalArgumentException") (by decide +kernel))) PsR.nl)) (by decide) (by decide) (hts (.classLink RX6 113 "java/lang/IllegalStateException") (by decide +kernel)) (va_Nw.use rfl (hev.2.2.2.1 ("java/lang/IllegalStateException", "java/lang/IllegalStateException") (by decide +kernel))) h7 h8 h9 ?_
        refine lv_astore_n (lv' := [(2, .ref qx), (0, .ref b0), (1, .ref ca)]) hx hb dX6_couldDo_101 rfl hl (by decide) rfl (fun ls hl => ?_)
        refine lv_iconst (v := nI 0) hx hb dX6_couldDo_102 (by decide) ?_
        exact r_z hx hb hrt9 hlk hS (Nat.le_of_ble_eq_true rfl) (Nat.le_of_ble_eq_true rfl) dX6_couldDo_103 rfl (⟨by rw [hd7]; rfl, by rw [hd7]; exact ⟨tg, y, hC7, TX.rf, FR.kp hk7⟩⟩)
    -- on
    obtain ⟨hz7, hr7, hn7⟩ := hP
    have hd7 : doC (sE M) (sR M) (sT M) (nI 1) hd kd v = (true, sE (oTake M hd kd).2.2, sR (oTake M hd kd).2.2) := by rw [do_take (wo_n hwo hwn), decide_eq_true hz7]
    refine lv_pop hx hb dX6_couldDo_64 rfl ?_
    refine lv_goto (tgt := 92) hx hb dX6_couldDo_65 (by decide) ?_
    refine lv_goto (tgt := 104) hx hb dX6_couldDo_92 (by decide) ?_
    refine lv_iconst (v := nI 1) hx hb dX6_couldDo_104 (by decide) ?_
    exact r_z hx hb hrt9 hlk hS (Nat.le_of_ble_eq_true rfl) (Nat.le_of_ble_eq_true rfl) dX6_couldDo_105 rfl (⟨by rw [hd7]; rfl, by rw [hd7]; exact hn7⟩)
  · subst hw
    refine x_top (y := (nI 2)) (rfl) ?_
    refine lv_tableIn (x := nI 2) (off := 64) (tgt := 68) hx hb dX6_couldDo_4 (by decide) (by decide) rfl (by decide) ?_
    refine lv_aload_n hx hb dX6_couldDo_68 rfl (lv_at hl 0 rfl) ?_
    refine lv_aload_n hx hb dX6_couldDo_69 rfl (lv_at hl 1 rfl) ?_
    refine x_getN (C := RX0) (TT := TX0) (N := 4) (ci := 3) (v := .int hd) hx hb hts in_X6_couldDo_RX0 hown hK (hcm) rfl 1 (by decide) (hev.2.2.2.2.1.2 ("Archeloft", 265, "Archeloft$Command", "handle", "I") (by decide +kernel)) (fun _ h9 => h9) rfl dX6_couldDo_70 ?_
    refine k_i (k_V (As := [.int hd]) (rest := []) ⟨hx, hb, hml, hown, hts⟩ hev hS (c_X6_end l hst hC iE iR hwo hd) (cwV 1 hts gX6_couldDo_X6_end rfl rfl rfl (by decide +kernel) ⟨Nat.le_of_ble_eq_true rfl, Nat.le_of_ble_eq_true rfl⟩) (x_recv hK hX.1 rfl) rfl hl.1 (Nat.le_of_ble_eq_true rfl) dX6_couldDo_73 (Nat.le_of_ble_eq_true rfl) (Nat.le_of_ble_eq_true rfl)) hS (fun E9 ce9 qx Hx locsx hx9 hzx hS h7 h8 h9 => ?_) (fun rq3_ H3 locs3 hP hz3 hS => ?_)
    · rcases hx9.1 with ⟨hE, hc9⟩ | ⟨hE, hc9⟩
      · subst hE
        have hk7 := hx9.2
        have hC7 := hC.kp hk7
        have hd7 : doC (sE M) (sR M) (sT M) (nI 2) hd kd v = (false, sE M, sR M) := by rw [do_end (wo_n hwo hwn), decide_eq_false (by rw [hc9]; decide), end_same (by rw [hc9]; decide)]
        refine vx_catch (own := RX6) (name := "java/util/NoSuchElementException") (E := "java/util/NoSuchElementException") hown (tableOf []) ⟨0, 92, 95, 243⟩ (tableOf [(0, 92, 98, 185), (0, 92, 101, 113)]) (htb.trans rfl) PsR.nl (by decide) (by decide) (hts (.classLink RX6 243 "java/util/NoSuchElementException") (by decide +kernel)) (va_Nw.use rfl (hev.2.2.2.1 ("java/util/NoSuchElementException", "java/util/NoSuchElementException") (by decide +kernel))) h7 h8 h9 ?_
        refine lv_astore_n (lv' := [(2, .ref qx), (0, .ref b0), (1, .ref ca)]) hx hb dX6_couldDo_95 rfl hl (by decide) rfl (fun ls hl => ?_)
        refine lv_iconst (v := nI 0) hx hb dX6_couldDo_96 (by decide) ?_
        exact r_z hx hb hrt9 hlk hS (Nat.le_of_ble_eq_true rfl) (Nat.le_of_ble_eq_true rfl) dX6_couldDo_97 rfl (⟨by rw [hd7]; rfl, by rw [hd7]; exact ⟨tg, y, hC7, TX.rf, FR.kp hk7⟩⟩)
      · subst hE
        have hk7 := hx9.2
        have hC7 := hC.kp hk7
        have hd7 : doC (sE M) (sR M) (sT M) (nI 2) hd kd v = (false, sE M, sR M) := by rw [do_end (wo_n hwo hwn), decide_eq_false (by rw [hc9]; decide), end_same (by rw [hc9]; decide)]
        refine vx_catch (own := RX6) (name := "java/lang/IllegalStateException") (E := "java/lang/IllegalStateException") hown (tableOf [(0, 92, 95, 243), (0, 92, 98, 185)]) ⟨0, 92, 101, 113⟩ (tableOf []) (htb.trans rfl) (PsR.cs (PsR.on (nm := "java/util/NoSuchElementException") (by decide) (hts (.classLink RX6 243 "java/util/NoSuchElementException") (by decide +kernel)) (hev.2.2.2.2.1.1.1 ("java/lang/IllegalStateException", "java/util/NoSuchElementException") (by decide +kernel))) (PsR.cs (PsR.on (nm := "java/lang/IllegalArgumentException") (by decide) (hts (.classLink RX6 185 "java/lang/IllegalArgumentException") (by decide +kernel)) (hev.2.2.2.2.1.1.1 ("java/lang/IllegalStateException", "java/lang/IllegalArgumentException") (by decide +kernel))) PsR.nl)) (by decide) (by decide) (hts (.classLink RX6 113 "java/lang/IllegalStateException") (by decide +kernel)) (va_Nw.use rfl (hev.2.2.2.1 ("java/lang/IllegalStateException", "java/lang/IllegalStateException") (by decide +kernel))) h7 h8 h9 ?_
        refine lv_astore_n (lv' := [(2, .ref qx), (0, .ref b0), (1, .ref ca)]) hx hb dX6_couldDo_101 rfl hl (by decide) rfl (fun ls hl => ?_)
        refine lv_iconst (v := nI 0) hx hb dX6_couldDo_102 (by decide) ?_
        exact r_z hx hb hrt9 hlk hS (Nat.le_of_ble_eq_true rfl) (Nat.le_of_ble_eq_true rfl) dX6_couldDo_103 rfl (⟨by rw [hd7]; rfl, by rw [hd7]; exact ⟨tg, y, hC7, TX.rf, FR.kp hk7⟩⟩)
    -- on
    obtain ⟨hz7, hr7, hn7⟩ := hP
    have hd7 : doC (sE M) (sR M) (sT M) (nI 2) hd kd v = (true, sE (oEnd M hd).2.2, sR (oEnd M hd).2.2) := by rw [do_end (wo_n hwo hwn), decide_eq_true hz7]
    refine lv_pop hx hb dX6_couldDo_76 rfl ?_
    refine lv_goto (tgt := 92) hx hb dX6_couldDo_77 (by decide) ?_
    refine lv_goto (tgt := 104) hx hb dX6_couldDo_92 (by decide) ?_
    refine lv_iconst (v := nI 1) hx hb dX6_couldDo_104 (by decide) ?_
    exact r_z hx hb hrt9 hlk hS (Nat.le_of_ble_eq_true rfl) (Nat.le_of_ble_eq_true rfl) dX6_couldDo_105 rfl (⟨by rw [hd7]; rfl, by rw [hd7]; exact hn7⟩)
  · subst hw
    refine x_top (y := (nI 3)) (rfl) ?_
    refine lv_tableOut (x := nI 3) (tgt := 80) hx hb dX6_couldDo_4 (by decide) (by decide) ?_
    refine lv_aload_n hx hb dX6_couldDo_80 rfl (lv_at hl 0 rfl) ?_
    refine lv_aload_n hx hb dX6_couldDo_81 rfl (lv_at hl 1 rfl) ?_
    refine x_getN (C := RX0) (TT := TX0) (N := 4) (ci := 3) (v := .int kd) hx hb hts in_X6_couldDo_RX0 hown hK (hcm) rfl 2 (by decide) (hev.2.2.2.2.1.2 ("Archeloft", 266, "Archeloft$Command", "kind", "I") (by decide +kernel)) (fun _ h9 => h9) rfl dX6_couldDo_82 ?_
    refine lv_aload_n hx hb dX6_couldDo_85 rfl (lv_at hl 1 rfl) ?_
    refine x_getN (C := RX0) (TT := TX0) (N := 4) (ci := 3) (v := .int v) hx hb hts in_X6_couldDo_RX0 hown hK (hcm) rfl 3 (by decide) (hev.2.2.2.2.1.2 ("Archeloft", 269, "Archeloft$Command", "value", "I") (by decide +kernel)) (fun _ h9 => h9) rfl dX6_couldDo_86 ?_
    refine k_v (k_V (As := [.int kd, .int v]) (rest := []) ⟨hx, hb, hml, hown, hts⟩ hev hS (c_X6_makeWith l hst hC iE iR hwo hbd hwn kd v) (cwV 2 hts gX6_couldDo_X6_makeWith rfl rfl rfl (by decide +kernel) ⟨Nat.le_of_ble_eq_true rfl, Nat.le_of_ble_eq_true rfl⟩) (x_recv hK hX.1 rfl) rfl hl.1 (Nat.le_of_ble_eq_true rfl) dX6_couldDo_89 (Nat.le_of_ble_eq_true rfl) (Nat.le_of_ble_eq_true rfl)) hS (fun E9 ce9 qx Hx locsx hx9 hzx hS h7 h8 h9 => ?_) (fun H4 locs4 hP hz4 hS => ?_)
    · obtain ⟨hE, hf9⟩ := hx9.1
      rcases hE with hE | hE
      · subst hE
        have hk7 := hx9.2
        have hC7 := hC.kp hk7
        have hd7 : doC (sE M) (sR M) (sT M) (nI 3) hd kd v = (false, sE M, sR M) := do_mk0 hf9
        refine vx_catch (own := RX6) (name := "java/lang/IllegalArgumentException") (E := "java/lang/IllegalArgumentException") hown (tableOf [(0, 92, 95, 243)]) ⟨0, 92, 98, 185⟩ (tableOf [(0, 92, 101, 113)]) (htb.trans rfl) (PsR.cs (PsR.on (nm := "java/util/NoSuchElementException") (by decide) (hts (.classLink RX6 243 "java/util/NoSuchElementException") (by decide +kernel)) (hev.2.2.2.2.1.1.1 ("java/lang/IllegalArgumentException", "java/util/NoSuchElementException") (by decide +kernel))) PsR.nl) (by decide) (by decide) (hts (.classLink RX6 185 "java/lang/IllegalArgumentException") (by decide +kernel)) (va_Nw.use rfl (hev.2.2.2.1 ("java/lang/IllegalArgumentException", "java/lang/IllegalArgumentException") (by decide +kernel))) h7 h8 h9 ?_
        refine lv_astore_n (lv' := [(2, .ref qx), (0, .ref b0), (1, .ref ca)]) hx hb dX6_couldDo_98 rfl hl (by decide) rfl (fun ls hl => ?_)
        refine lv_iconst (v := nI 0) hx hb dX6_couldDo_99 (by decide) ?_
        exact r_z hx hb hrt9 hlk hS (Nat.le_of_ble_eq_true rfl) (Nat.le_of_ble_eq_true rfl) dX6_couldDo_100 rfl (⟨by rw [hd7]; rfl, by rw [hd7]; exact ⟨tg, y, hC7, TX.rf, FR.kp hk7⟩⟩)
      · subst hE
        have hk7 := hx9.2
        have hC7 := hC.kp hk7
        have hd7 : doC (sE M) (sR M) (sT M) (nI 3) hd kd v = (false, sE M, sR M) := do_mk0 hf9
        refine vx_catch (own := RX6) (name := "java/lang/IllegalStateException") (E := "java/lang/IllegalStateException") hown (tableOf [(0, 92, 95, 243), (0, 92, 98, 185)]) ⟨0, 92, 101, 113⟩ (tableOf []) (htb.trans rfl) (PsR.cs (PsR.on (nm := "java/util/NoSuchElementException") (by decide) (hts (.classLink RX6 243 "java/util/NoSuchElementException") (by decide +kernel)) (hev.2.2.2.2.1.1.1 ("java/lang/IllegalStateException", "java/util/NoSuchElementException") (by decide +kernel))) (PsR.cs (PsR.on (nm := "java/lang/IllegalArgumentException") (by decide) (hts (.classLink RX6 185 "java/lang/IllegalArgumentException") (by decide +kernel)) (hev.2.2.2.2.1.1.1 ("java/lang/IllegalStateException", "java/lang/IllegalArgumentException") (by decide +kernel))) PsR.nl)) (by decide) (by decide) (hts (.classLink RX6 113 "java/lang/IllegalStateException") (by decide +kernel)) (va_Nw.use rfl (hev.2.2.2.1 ("java/lang/IllegalStateException", "java/lang/IllegalStateException") (by decide +kernel))) h7 h8 h9 ?_
        refine lv_astore_n (lv' := [(2, .ref qx), (0, .ref b0), (1, .ref ca)]) hx hb dX6_couldDo_101 rfl hl (by decide) rfl (fun ls hl => ?_)
        refine lv_iconst (v := nI 0) hx hb dX6_couldDo_102 (by decide) ?_
        exact r_z hx hb hrt9 hlk hS (Nat.le_of_ble_eq_true rfl) (Nat.le_of_ble_eq_true rfl) dX6_couldDo_103 rfl (⟨by rw [hd7]; rfl, by rw [hd7]; exact ⟨tg, y, hC7, TX.rf, FR.kp hk7⟩⟩)
    -- on
    obtain ⟨hf7, hk7, hn7⟩ := hP
    have hd7 : doC (sE M) (sR M) (sT M) (nI 3) hd kd v = (true, madeE (sE M) (ix kd) v (sT M), madeR (sE M) (sR M) (ix kd)) := do_mk hf7 hk7
    refine lv_goto (tgt := 104) hx hb dX6_couldDo_92 (by decide) ?_
    refine lv_iconst (v := nI 1) hx hb dX6_couldDo_104 (by decide) ?_
    exact r_z hx hb hrt9 hlk hS (Nat.le_of_ble_eq_true rfl) (Nat.le_of_ble_eq_true rfl) dX6_couldDo_105 rfl (⟨by rw [hd7]; rfl, by rw [hd7]; exact hn7⟩)

set_option maxRecDepth 100000 in
theorem in_X6_next_RX1 : ∀ w ∈ wsX10, w ∈ wsX6_next := by decide +kernel
set_option maxRecDepth 100000 in
theorem in_X6_next_RX5 : ∀ w ∈ wsX50, w ∈ wsX6_next := by decide +kernel
set_option maxHeartbeats 4000000 in
set_option maxRecDepth 100000 in
theorem c_X6_next (l : Launch) {D : va_G} {T : Nat → ClassId} {dE mi : Nat} (hst : l.stackTraces = false) {A : Nat → Prop} {H : Heap} {b0 : Nat} {tg : Nat → Nat} {wo : Option Nat} {M : mSt} {y : mLy} (hC : Core D T dE b0 tg H A (sE M) (sR M) y wo (sT M)) (iE : InvE (sE M)) (iR : InvR (sE M) (sR M)) (hwo : wOn (sW M) = wo.isSome) (hW : RepW D T dE b0 tg H (sW M) wo) (iW : InvW (sE M) (sW M)) : vx_Met l yX6_next wsX6_next (rmL 7 1 6) (PcE D T dE mi A H [.ref b0]) (QI A (fun r H1 => (oNext M).1 = 0 ∧ r = (oNext M).2.1 ∧ H1.size = H.size ∧ RepW D T dE b0 tg H1 (sW (oNext M).2.2) wo ∧ FR tg (fun t => t = 300) H H1)) (XX A (XE H (fun E9 => E9 = "java/lang/IllegalStateException" ∧ (oNext M).1 = 1))) 1 6 A := by
  refine entry (cc := cX6_next) (maxL := 3) (ret := (some .int)) (by decide) rfl (Nat.le_of_ble_eq_true rfl) ?_
  intro p e s m args below meth c hx hb hrt9 hml hown hts hlk hnt hnm hev hS ls hl
  have hown : s.vm.findClass RX6 = some m.cls := hown
  have hK := hev.1
  have hl : lv_has ls 3 [(0, .ref b0)] := hl
  obtain ⟨hT, hX, hE, hR⟩ := id hC
  refine lv_aload_n hx hb dX6_next_0 rfl (lv_at hl 0 rfl) ?_
  refine k_qp (k_V (As := []) (rest := []) ⟨hx, hb, hml, hown, hts⟩ hev hS (c_X6_walkThatGoesOn l hst hX.1) (cwV 0 hts gX6_next_X6_walkThatGoesOn rfl rfl rfl (by decide +kernel) ⟨Nat.le_of_ble_eq_true rfl, Nat.le_of_ble_eq_true rfl⟩) (x_recv hK hX.1 rfl) rfl hl.1 (Nat.le_of_ble_eq_true rfl) dX6_next_1 (Nat.le_of_ble_eq_true rfl) (Nat.le_of_ble_eq_true rfl)) hS hnt hlk (fun E9 H9 h9 z9 => ⟨⟨h9.1.1, by rw [nxt_1 (wo_f hwo h9.1.2)]; rfl⟩, h9.2⟩) (Nat.le_of_ble_eq_true rfl) (Nat.le_of_ble_eq_true rfl) (fun rq1_ H1 locs1 hP hz1 hS => ?_)
  obtain ⟨eH, er, hwn⟩ := hP
  have eH := eH.symm
  subst eH
  obtain ⟨hon, wk, al, aarr, acap, cl, zc, hwk, hk1, hk2, hk3, hk4⟩ : wOn (sW M) = true ∧ ∃ (wk al aarr acap cl : Nat) (z : mLz), wo = some wk ∧ RepK D T dE b0 tg H (sW M) wk al aarr acap cl z := hW.elim (fun h => absurd h.2 hwn) id
  refine x_tov (y := .ref wk) (by rw [er, hwk]; rfl) ?_
  obtain ⟨iw1, iw2, iw3, iw4, iw5⟩ := iW hon
  refine lv_astore_n (lv' := [(1, .ref wk), (0, .ref b0)]) hx hb dX6_next_4 rfl hl (by decide) rfl (fun ls hl => ?_)
  refine lv_aload_n hx hb dX6_next_5 rfl (lv_at hl 0 rfl) ?_
  refine x_getN (C := RX5) (TT := TX5) (N := 3) (ci := 8) (v := .int (nI ((wTold (sW M))))) hx hb hts in_X6_next_RX5 hown hK (hk1) rfl 2 (by decide) (hev.2.2.2.2.1.2 ("Archeloft", 179, "Archeloft$Walk", "told", "I") (by decide +kernel)) (fun _ h9 => h9) rfl dX6_next_6 ?_
  refine lv_aload_n hx hb dX6_next_9 rfl (lv_at hl 0 rfl) ?_
  refine x_getN (C := RX5) (TT := TX5) (N := 3) (ci := 8) (v := .ref al) hx hb hts in_X6_next_RX5 hown hK (hk1) rfl 0 (by decide) (hev.2.2.2.2.1.2 ("Archeloft", 182, "Archeloft$Walk", "answers", "Ljava/util/ArrayList;") (by decide +kernel)) (fun _ h9 => h9) rfl dX6_next_10 ?_
  refine k_ip (k_V (As := []) (rest := [.int (nI ((wTold (sW M))))]) ⟨hx, hb, hml, hown, hts⟩ hev hS (c_Jx4a65c_size_8abf5 l hk3.1) (cwV 0 hts gX6_next_Jx4a65c_size_8abf5 rfl rfl rfl (by decide +kernel) ⟨Nat.le_of_ble_eq_true rfl, Nat.le_of_ble_eq_true rfl⟩) (x_recv hK ((hk3.1.rec).choose_spec) rfl) rfl hl.1 (Nat.le_of_ble_eq_true rfl) dX6_next_13 (Nat.le_of_ble_eq_true rfl) (Nat.le_of_ble_eq_true rfl)) hS hnt hlk (fun _ _ h _ => h.elim) (Nat.le_of_ble_eq_true rfl) (Nat.le_of_ble_eq_true rfl) (fun rq2_ H2 locs2 hP hz2 hS => ?_)
  refine W.widen (k := 0 + 1) (n := 0 + 6) (Nat.le_refl _) (Nat.le_refl _) ?_
  obtain ⟨eH, er⟩ := hP
  have eH := eH.symm
  subst eH
  refine x_top (y := (nI ((wN (sW M))))) (er) ?_
  refine y_icmp_lt hx hb (by omega) (by omega) (tgt := 21) dX6_next_16 (by decide) (fun c16 => ?_) (fun c16 => ?_)
  · have he9 := (hE _ (iw4 _ c16)).1
    refine lv_aload_n hx hb dX6_next_21 rfl (lv_at hl 0 rfl) ?_
    refine x_getN (C := RX5) (TT := TX5) (N := 3) (ci := 8) (v := .ref al) hx hb hts in_X6_next_RX5 hown hK (hk1) rfl 0 (by decide) (hev.2.2.2.2.1.2 ("Archeloft", 182, "Archeloft$Walk", "answers", "Ljava/util/ArrayList;") (by decide +kernel)) (fun _ h9 => h9) rfl dX6_next_22 ?_
    refine lv_aload_n hx hb dX6_next_25 rfl (lv_at hl 0 rfl) ?_
    refine x_getN (C := RX5) (TT := TX5) (N := 3) (ci := 8) (v := .int (nI ((wTold (sW M))))) hx hb hts in_X6_next_RX5 hown hK (hk1) rfl 2 (by decide) (hev.2.2.2.2.1.2 ("Archeloft", 179, "Archeloft$Walk", "told", "I") (by decide +kernel)) (fun _ h9 => h9) rfl dX6_next_26 ?_
    refine k_qp (k_V (As := [.int (nI ((wTold (sW M))))]) (rest := []) ⟨hx, hb, hml, hown, hts⟩ hev hS (c_Jx4a65c_get_915e3 l hk3.1 (i := (wTold (sW M))) (c16)) (cwV 1 hts gX6_next_Jx4a65c_get_915e3 rfl rfl rfl (by decide +kernel) ⟨Nat.le_of_ble_eq_true rfl, Nat.le_of_ble_eq_true rfl⟩) (x_recv hK ((hk3.1.rec).choose_spec) rfl) rfl hl.1 (Nat.le_of_ble_eq_true rfl) dX6_next_29 (Nat.le_of_ble_eq_true rfl) (Nat.le_of_ble_eq_true rfl)) hS hnt hlk (fun _ _ h _ => h.elim) (Nat.le_of_ble_eq_true rfl) (Nat.le_of_ble_eq_true rfl) (fun rq3_ H3 locs3 hP hz3 hS => ?_)
    refine W.widen (k := 0 + 1) (n := 0 + 6) (Nat.le_refl _) (Nat.le_refl _) ?_
    obtain ⟨eH, er⟩ := hP
    have eH := eH.symm
    subst eH
    refine x_tov (y := .ref ((ea b0 (wA (sW M) (wTold (sW M)))))) (by rw [er]; rfl) ?_
    refine va_castE hx hb hown (hts (.classLink RX6 9 "Archeloft$Entity") (by decide +kernel)) (x_recv hK he9 rfl) dX6_next_32 ?_
    refine x_getN (C := RX1) (TT := TX1) (N := 6) (ci := 4) (v := .int ((handle (sE M) (wA (sW M) (wTold (sW M)))))) hx hb hts in_X6_next_RX1 hown hK (he9) rfl 2 (by decide) (hev.2.2.2.2.1.2 ("Archeloft", 63, "Archeloft$Entity", "handle", "I") (by decide +kernel)) (fun _ h9 => h9) rfl dX6_next_35 ?_
    refine lv_istore_n (lv' := [(2, .int ((handle (sE M) (wA (sW M) (wTold (sW M)))))), (1, .ref wk), (0, .ref b0)]) hx hb dX6_next_38 rfl hl (by decide) rfl (fun ls hl => ?_)
    refine lv_aload_n hx hb dX6_next_39 rfl (lv_at hl 1 rfl) ?_
    refine lv_dup hx hb dX6_next_40 rfl ?_
    refine x_getN (C := RX5) (TT := TX5) (N := 3) (ci := 8) (v := .int (nI ((wTold (sW M))))) hx hb hts in_X6_next_RX5 hown hK (hk1) rfl 2 (by decide) (hev.2.2.2.2.1.2 ("Archeloft", 179, "Archeloft$Walk", "told", "I") (by decide +kernel)) (fun _ h9 => h9) rfl dX6_next_41 ?_
    refine lv_iconst (v := nI 1) hx hb dX6_next_44 (by decide) ?_
    refine y_iadd hx hb dX6_next_45 ?_
    refine x_putN (C := RX5) (TT := TX5) (N := 3) (ci := 8) (v := .int (nI ((wTold (sW M)) + 1))) (ty := tyX5 2) hx hb hts in_X6_next_RX5 tyX5 tyX5_ok nmX5 hown hK hS (hk1) (hT.a hk2 (by decide)) rfl 2 (by decide) (hev.2.2.2.2.1.2 ("Archeloft", 179, "Archeloft$Walk", "told", "I") (by decide +kernel)) (fun _ h9 => h9) rfl (tyX5_ok 2 (by decide)) rfl rfl (Nat.le_of_ble_eq_true rfl) dX6_next_46 (fun H4 locs4 ho4 hz4 hq4 hS => ?_)
    have ho4 : oc D H4 wk 8 [.ref al, .ref cl, .int (nI ((wTold (sW M)) + 1))] := ho4
    have f3 : FR tg (fun t => t = 300) H H4 := ⟨by omega, fun q9 h9 h8 => hq4 q9 (fun z => h8 (by rw [z]; exact hk2))⟩
    have hk5 := hk3.kept TX.rf f3 (by decide) (by decide) (by decide)
    have hk6 := hk4.kept TX.rf f3 (by decide) (by decide) (by decide) (by decide)
    have ho9 := ho4
    have hz9 := hz4
    refine lv_iload_n hx hb dX6_next_49 rfl (lv_at hl 0 rfl) ?_
    exact r_i hx hb hrt9 hlk hS (Nat.le_of_ble_eq_true rfl) (Nat.le_of_ble_eq_true rfl) dX6_next_50 (by rw [nxt_0 hon (by omega)]; exact ⟨rfl, rfl, hz9, Or.inr ⟨rfl, wk, al, aarr, acap, cl, zc, hwk, ho9, hk2, hk5, hk6⟩, f3⟩)
  · have het : wTold (sW M) = wN (sW M) := by omega
    refine lv_iconst (v := -1) hx hb dX6_next_19 (by decide) ?_
    exact r_i hx hb hrt9 hlk hS (Nat.le_of_ble_eq_true rfl) (Nat.le_of_ble_eq_true rfl) dX6_next_20 (by rw [nxt_e hon het]; exact ⟨rfl, rfl, rfl, hW, FR.rf⟩)
set_option maxRecDepth 100000 in
theorem ta_X6_defer_189 : ∀ w ∈ (vx_atS RX6 189 "java/lang/IllegalArgumentException" ["java/lang/RuntimeException", "java/lang/Exception"]).filter goodWord, w ∈ wsX6_defer := by decide +kernel
set_option maxRecDepth 100000 in
theorem ta_X6_defer_117 : ∀ w ∈ (vx_atS RX6 117 "java/lang/IllegalStateException" ["java/lang/RuntimeException", "java/lang/Exception"]).filter goodWord, w ∈ wsX6_defer := by decide +kernel
set_option maxRecDepth 100000 in
theorem in_X6_defer_RX0 : ∀ w ∈ wsX00, w ∈ wsX6_defer := by decide +kernel
set_option maxRecDepth 100000 in
theorem in_X6_defer_RX5 : ∀ w ∈ wsX50, w ∈ wsX6_defer := by decide +kernel
set_option maxHeartbeats 4000000 in
set_option maxRecDepth 100000 in
theorem c_X6_defer (l : Launch) {D : va_G} {T : Nat → ClassId} {dE mi : Nat} (hst : l.stackTraces = false) {A : Nat → Prop} {H : Heap} {b0 : Nat} {tg : Nat → Nat} {wo : Option Nat} {M : mSt} {y : mLy} (hC : Core D T dE b0 tg H A (sE M) (sR M) y wo (sT M)) (iE : InvE (sE M)) (iR : InvR (sE M) (sR M)) (hwo : wOn (sW M) = wo.isSome) (hW : RepW D T dE b0 tg H (sW M) wo) (iW : InvW (sE M) (sW M)) (x1 x2 x3 x4 : Int32) : vx_Met l yX6_defer wsX6_defer (rmL 8 3 83) (PcE D T dE mi A H [.ref b0, .int x1, .int x2, .int x3, .int x4]) (QI A (fun r H1 => (oDefer M x1 x2 x3 x4).1 = 0 ∧ r = (oDefer M x1 x2 x3 x4).2.1 ∧ ∃ tg1 : Nat → Nat, TG A b0 H1 tg1 ∧ TX tg H tg1 ∧ RepW D T dE b0 tg1 H1 (sW (oDefer M x1 x2 x3 x4).2.2) wo ∧ FR tg (fun t => t = 304 ∨ t = 305) H H1)) (XX A (XE H (fun E9 => (E9 = "java/lang/IllegalArgumentException" ∧ (oDefer M x1 x2 x3 x4).1 = 1) ∨ (E9 = "java/lang/IllegalStateException" ∧ (oDefer M x1 x2 x3 x4).1 = 2)))) 3 83 A := by
  refine entry (cc := cX6_defer) (maxL := 6) (ret := (some .int)) (by decide) rfl (Nat.le_of_ble_eq_true rfl) ?_
  intro p e s m args below meth c hx hb hrt9 hml hown hts hlk hnt hnm hev hS ls hl
  have hown : s.vm.findClass RX6 = some m.cls := hown
  have hK := hev.1
  have hl : lv_has ls 6 [(0, .ref b0), (1, .int x1), (2, .int x2), (3, .int x3), (4, .int x4)] := hl
  obtain ⟨hT, hX, hE, hR⟩ := id hC
  refine lv_iload_n hx hb dX6_defer_0 rfl (lv_at hl 1 rfl) ?_
  refine lv_if_eq (tgt := 29) hx hb dX6_defer_1 (by decide) (fun c1 => ?_) (fun c1 => ?_)
  · have hin : inB x1 4 = true := by rw [c1]; decide
    refine lv_aload_n hx hb dX6_defer_29 rfl (lv_at hl 0 rfl) ?_
    refine k_qp (k_V (As := []) (rest := []) ⟨hx, hb, hml, hown, hts⟩ hev hS (c_X6_walkThatGoesOn l hst hX.1) (cwV 0 hts gX6_defer_X6_walkThatGoesOn rfl rfl rfl (by decide +kernel) ⟨Nat.le_of_ble_eq_true rfl, Nat.le_of_ble_eq_true rfl⟩) (x_recv hK hX.1 rfl) rfl hl.1 (Nat.le_of_ble_eq_true rfl) dX6_defer_30 (Nat.le_of_ble_eq_true rfl) (Nat.le_of_ble_eq_true rfl)) hS hnt hlk (fun E9 H9 h9 z9 => ⟨Or.inr ⟨h9.1.1, by rw [dfr_2 hin (Or.inl (wo_f hwo h9.1.2))]; rfl⟩, h9.2⟩) (Nat.le_of_ble_eq_true rfl) (Nat.le_of_ble_eq_true rfl) (fun rq1_ H1 locs1 hP hz1 hS => ?_)
    obtain ⟨eH, er, hwn⟩ := hP
    have eH := eH.symm
    subst eH
    obtain ⟨hon, wk, al, aarr, acap, cl, zc, hwk, hk1, hk2, hk3, hk4⟩ : wOn (sW M) = true ∧ ∃ (wk al aarr acap cl : Nat) (z : mLz), wo = some wk ∧ RepK D T dE b0 tg H (sW M) wk al aarr acap cl z := hW.elim (fun h => absurd h.2 hwn) id
    refine x_tov (y := .ref wk) (by rw [er, hwk]; rfl) ?_
    obtain ⟨iw1, iw2, iw3, iw4, iw5⟩ := iW hon
    refine lv_astore (lv' := [(5, .ref wk), (0, .ref b0), (1, .int x1), (2, .int x2), (3, .int x3), (4, .int x4)]) hx hb dX6_defer_33 hl (by decide) rfl (fun ls hl => ?_)
    refine lv_aload hx hb dX6_defer_35 (lv_at hl 0 rfl) ?_
    refine x_getN (C := RX5) (TT := TX5) (N := 3) (ci := 8) (v := .ref cl) hx hb hts in_X6_defer_RX5 hown hK (hk1) rfl 1 (by decide) (hev.2.2.2.2.1.2 ("Archeloft", 190, "Archeloft$Walk", "commands", "Ljava/util/ArrayList;") (by decide +kernel)) (fun _ h9 => h9) rfl dX6_defer_37 ?_
    refine k_ip (k_V (As := []) (rest := []) ⟨hx, hb, hml, hown, hts⟩ hev hS (c_Jx4a65c_size_8abf5 l hk4.1.1) (cwV 0 hts gX6_defer_Jx4a65c_size_8abf5 rfl rfl rfl (by decide +kernel) ⟨Nat.le_of_ble_eq_true rfl, Nat.le_of_ble_eq_true rfl⟩) (x_recv hK ((hk4.1.1.rec).choose_spec) rfl) rfl hl.1 (Nat.le_of_ble_eq_true rfl) dX6_defer_40 (Nat.le_of_ble_eq_true rfl) (Nat.le_of_ble_eq_true rfl)) hS hnt hlk (fun _ _ h _ => h.elim) (Nat.le_of_ble_eq_true rfl) (Nat.le_of_ble_eq_true rfl) (fun rq2_ H2 locs2 hP hz2 hS => ?_)
    refine W.widen (k := 0 + 1) (n := 0 + 6) (Nat.le_refl _) (Nat.le_refl _) ?_
    obtain ⟨eH, er⟩ := hP
    have eH := eH.symm
    subst eH
    refine x_top (y := (nI ((wC (sW M)).1))) (er) ?_
    refine lv_bipush (v := nI 20) hx hb dX6_defer_43 (by decide) ?_
    refine y_icmp_lt hx hb (by omega) (Nat.le_of_ble_eq_true rfl) (tgt := 58) dX6_defer_45 (by decide) (fun c45 => ?_) (fun c45 => ?_)
    · have hcm := hk4.1.1.2.1
      have hdc := @dC_le zc.2.1 (wC (sW M)).1
      have hds := dS_le hk4.1.2.1 hk4.1.1.2.1 (show (wC (sW M)).1 < 64 by omega)
      refine lv_aload hx hb dX6_defer_58 (lv_at hl 0 rfl) ?_
      refine x_getN (C := RX5) (TT := TX5) (N := 3) (ci := 8) (v := .ref cl) hx hb hts in_X6_defer_RX5 hown hK (hk1) rfl 1 (by decide) (hev.2.2.2.2.1.2 ("Archeloft", 190, "Archeloft$Walk", "commands", "Ljava/util/ArrayList;") (by decide +kernel)) (fun _ h9 => h9) rfl dX6_defer_60 ?_
      refine x_new (C := RX0) (TT := TX0) (N := 4) (ci := 3) (fs := [.int 0, .int 0, .int 0, .int 0]) hx hb hts in_X6_defer_RX0 tyX0 tyX0_ok hown (hts (.classLink RX6 195 RX0) (by decide +kernel)) (hts (.instantiable RX0 4) (by decide +kernel)) (hts (.initialized RX0) (by decide +kernel)) hK hS rfl (by decide) (Nat.le_of_ble_eq_true rfl) (Nat.le_of_ble_eq_true rfl) dX6_defer_63 (fun H3 ho3 hz3 hq3 hS => ?_)
      have k1 : KP H H3 := ⟨by omega, hq3⟩
      refine lv_dup hx hb dX6_defer_66 rfl ?_
      refine lv_iload_n hx hb dX6_defer_67 rfl (lv_at hl 2 rfl) ?_
      refine lv_iload_n hx hb dX6_defer_68 rfl (lv_at hl 3 rfl) ?_
      refine lv_iload_n hx hb dX6_defer_69 rfl (lv_at hl 4 rfl) ?_
      refine lv_iload hx hb dX6_defer_70 (lv_at hl 5 rfl) ?_
      refine k_vp (k_I (As := [.int x1, .int x2, .int x3, .int x4]) (rest := [.ref H.size, .ref cl]) ⟨hx, hb, hml, hown, hts⟩ hev hS (c_X0_init l ho3 (hT.2.1 _ (Nat.le_refl _)) x1 x2 x3 x4) (cwI 4 hts gX6_defer_X0_init rfl rfl rfl (hts (.initialized RX0) (by decide +kernel)) (hts (.methodLink RX6 197 yX0_init) (by decide +kernel)) (hts (.instanceMethod yX0_init) (by decide +kernel)) rfl (by decide +kernel) ⟨Nat.le_of_ble_eq_true rfl, Nat.le_of_ble_eq_true rfl⟩) rfl hl.1 (Nat.le_of_ble_eq_true rfl) dX6_defer_72 (Nat.le_of_ble_eq_true rfl) (Nat.le_of_ble_eq_true rfl)) hS hnt hlk (fun _ _ h _ => h.elim) (Nat.le_of_ble_eq_true rfl) (Nat.le_of_ble_eq_true rfl) (fun H4 locs4 hP hz4 hS => ?_)
      refine W.widen (k := 0 + 1 + 1) (n := 0 + 6 + 4) (Nat.le_refl _) (Nat.le_refl _) ?_
      obtain ⟨hoi, hzi, hqi⟩ := hP
      have k2 : KP H H4 := ⟨by omega, fun q9 h9 => (hqi q9 (by omega)).trans (hq3 q9 h9)⟩
      have hzj : H4.size = H.size + 1 := by rw [hzi, hz3]
      refine k_ip (k_V (As := [.ref H.size]) (rest := []) ⟨hx, hb, hml, hown, hts⟩ hev hS (c_addL l (hk4.1.1.kept (k2.2 _ hk4.1.1.lt.1) (k2.2 _ hk4.1.1.lt.2)) hk4.1.2.1.lt (hk4.1.aa hT (by decide)) (hk4.1.aA hT) (fun q9 h9 => hT.2.1 q9 (by omega)) (ci := 3) (rr := (RX0, TX0, 4)) (fun x hx2 => ⟨fun z => absurd (show (306 : Nat) = 304 by rw [← (hk4.2 x hx2).2, ← hk4.1.2.2.1, z]) (by decide), _, (hk4.2 x hx2).1.kept (k2.2 _ (hk4.2 x hx2).1.lt)⟩) rfl (by decide +kernel) hoi (fun z => absurd (hT.lt hk4.1.2.2.1 (by decide)) (by omega))) (cwV 1 hts gX6_defer_Jx4a65c_add_9ea2d rfl rfl rfl (by decide +kernel) ⟨Nat.le_of_ble_eq_true rfl, Nat.le_of_ble_eq_true rfl⟩) (x_recv hK (((hk4.1.1.kept (k2.2 _ hk4.1.1.lt.1) (k2.2 _ hk4.1.1.lt.2)).rec).choose_spec) rfl) rfl hl.1 (Nat.le_of_ble_eq_true rfl) dX6_defer_75 (by show _ ≤ (3 : Nat); omega) (by show _ ≤ (83 : Nat); omega)) hS hnt hlk (fun _ _ h _ => h.elim) (by show _ ≤ (3 : Nat); omega) (by show _ ≤ (83 : Nat); omega) (fun rq5_ H5 locs5 hP hz5 hS => ?_)
      obtain ⟨-, hL7, hz7, hq7⟩ := hP
      obtain ⟨tg1, arr1, cap1, t1, tx1, l1, v1, f1⟩ := Rec.ad hT hk4.1 hk4.2 (by decide) (by decide) (by omega) hoi hzj k2.2 hL7 hz7 hq7
      have hk1 := ocF hk1 f1 hk2 (by omega)
      have hk7 := (tx1 _ (hT.lt hk2 (by decide))).trans hk2
      have hk5 := hk3.kept tx1 f1 (by omega) (by omega) (by omega)
      refine lv_pop hx hb dX6_defer_78 rfl ?_
      refine lv_aload hx hb dX6_defer_79 (lv_at hl 0 rfl) ?_
      refine x_getN (C := RX5) (TT := TX5) (N := 3) (ci := 8) (v := .ref cl) hx hb hts in_X6_defer_RX5 hown hK (hk1) rfl 1 (by decide) (hev.2.2.2.2.1.2 ("Archeloft", 190, "Archeloft$Walk", "commands", "Ljava/util/ArrayList;") (by decide +kernel)) (fun _ h9 => h9) rfl dX6_defer_81 ?_
      refine k_ip (k_V (As := []) (rest := []) ⟨hx, hb, hml, hown, hts⟩ hev hS (c_Jx4a65c_size_8abf5 l hL7) (cwV 0 hts gX6_defer_Jx4a65c_size_8abf5 rfl rfl rfl (by decide +kernel) ⟨Nat.le_of_ble_eq_true rfl, Nat.le_of_ble_eq_true rfl⟩) (x_recv hK ((hL7.rec).choose_spec) rfl) rfl hl.1 (Nat.le_of_ble_eq_true rfl) dX6_defer_84 (by show _ ≤ (3 : Nat); omega) (by show _ ≤ (83 : Nat); omega)) hS hnt hlk (fun _ _ h _ => h.elim) (by show _ ≤ (3 : Nat); omega) (by show _ ≤ (83 : Nat); omega) (fun rq6_ H6 locs6 hP hz6 hS => ?_)
      refine W.widen (k := 0 + 1 + 1 + (dC zc.2.1 (wC (sW M)).1)) (n := 0 + 6 + 4 + (dS zc.2.1 (wC (sW M)).1)) (Nat.le_refl _) (Nat.le_refl _) ?_
      obtain ⟨eH, er⟩ := hP
      have eH := eH.symm
      subst eH
      refine x_top (y := (nI (((wC (sW M)).1 + 1)))) (er) ?_
      exact r_i hx hb hrt9 hlk hS (by omega) (by omega) dX6_defer_87 (by
          rw [dfr_0 hin hon (by omega)]
          refine ⟨rfl, rfl, tg1, t1, tx1, Or.inr ⟨rfl, wk, al, aarr, acap, cl, (arr1, cap1, nu zc.2.2 (wC (sW M)).1 H.size), hwk, hk1, hk7, hk5, l1, fun i hi => ?_⟩, f1⟩
          obtain ⟨v2, v3⟩ := v1 i hi
          refine ⟨?_, v3⟩
          show oc D _ (nu zc.2.2 (wC (sW M)).1 H.size i) 3 [.int (nu (wC (sW M)).2.1 (wC (sW M)).1 x1 i), .int (nu (wC (sW M)).2.2.1 (wC (sW M)).1 x2 i), .int (nu (wC (sW M)).2.2.2.1 (wC (sW M)).1 x3 i), .int (nu (wC (sW M)).2.2.2.2 (wC (sW M)).1 x4 i)]
          by_cases c : i = (wC (sW M)).1
          · rw [if_pos c] at v2
            rw [c] at v2 ⊢
            simp only [nu_s] at v2 ⊢
            exact v2
          · rw [if_neg c] at v2
            rw [nu_n (f := (wC (sW M)).2.1) c, nu_n (f := (wC (sW M)).2.2.1) c, nu_n (f := (wC (sW M)).2.2.2.1) c, nu_n (f := (wC (sW M)).2.2.2.2) c]
            exact v2)
    · have h20 : (wC (sW M)).1 = 20 := by omega
      exact k_thr (cls := "java/lang/IllegalStateException") (text := "20 commands wait") (ik := 113) (is := 193) (ic := 117) hx hb hst hown hev hS (by decide +kernel) (hts (.classLink RX6 113 "java/lang/IllegalStateException") (by decide +kernel)) (hts (.initialized "java/lang/IllegalStateException") (by decide +kernel)) (by decide +kernel) (by decide +kernel) (fun w h => hts w (ta_X6_defer_117 w h)) (by decide +kernel) (by decide +kernel) (hl.1.trans hml.symm) dX6_defer_48 dX6_defer_51 dX6_defer_52 dX6_defer_54 dX6_defer_57 hnt (Nat.le_of_ble_eq_true rfl) (Nat.le_of_ble_eq_true rfl) (Nat.le_of_ble_eq_true rfl) (Nat.le_of_ble_eq_true rfl) hlk ((fun H1 h1 h2 => ⟨Or.inr ⟨rfl, by rw [dfr_2 hin (Or.inr h20)]; rfl⟩, h1, h2⟩)) (Nat.le_of_ble_eq_true rfl) (Nat.le_of_ble_eq_true rfl)
  · refine lv_iload_n hx hb dX6_defer_4 rfl (lv_at hl 1 rfl) ?_
    refine lv_iconst (v := nI 1) hx hb dX6_defer_5 (by decide) ?_
    refine lv_icmp_eq (tgt := 29) hx hb dX6_defer_6 (by decide) (fun c6 => ?_) (fun c6 => ?_)
    · have hin : inB x1 4 = true := by rw [c6]; decide
      refine lv_aload_n hx hb dX6_defer_29 rfl (lv_at hl 0 rfl) ?_
      refine k_qp (k_V (As := []) (rest := []) ⟨hx, hb, hml, hown, hts⟩ hev hS (c_X6_walkThatGoesOn l hst hX.1) (cwV 0 hts gX6_defer_X6_walkThatGoesOn rfl rfl rfl (by decide +kernel) ⟨Nat.le_of_ble_eq_true rfl, Nat.le_of_ble_eq_true rfl⟩) (x_recv hK hX.1 rfl) rfl hl.1 (Nat.le_of_ble_eq_true rfl) dX6_defer_30 (Nat.le_of_ble_eq_true rfl) (Nat.le_of_ble_eq_true rfl)) hS hnt hlk (fun E9 H9 h9 z9 => ⟨Or.inr ⟨h9.1.1, by rw [dfr_2 hin (Or.inl (wo_f hwo h9.1.2))]; rfl⟩, h9.2⟩) (Nat.le_of_ble_eq_true rfl) (Nat.le_of_ble_eq_true rfl) (fun rq7_ H7 locs7 hP hz7 hS => ?_)
      obtain ⟨eH, er, hwn⟩ := hP
      have eH := eH.symm
      subst eH
      obtain ⟨hon, wk, al, aarr, acap, cl, zc, hwk, hk1, hk2, hk3, hk4⟩ : wOn (sW M) = true ∧ ∃ (wk al aarr acap cl : Nat) (z : mLz), wo = some wk ∧ RepK D T dE b0 tg H (sW M) wk al aarr acap cl z := hW.elim (fun h => absurd h.2 hwn) id
      refine x_tov (y := .ref wk) (by rw [er, hwk]; rfl) ?_
      obtain ⟨iw1, iw2, iw3, iw4, iw5⟩ := iW hon
      refine lv_astore (lv' := [(5, .ref wk), (0, .ref b0), (1, .int x1), (2, .int x2), (3, .int x3), (4, .int x4)]) hx hb dX6_defer_33 hl (by decide) rfl (fun ls hl => ?_)
      refine lv_aload hx hb dX6_defer_35 (lv_at hl 0 rfl) ?_
      refine x_getN (C := RX5) (TT := TX5) (N := 3) (ci := 8) (v := .ref cl) hx hb hts in_X6_defer_RX5 hown hK (hk1) rfl 1 (by decide) (hev.2.2.2.2.1.2 ("Archeloft", 190, "Archeloft$Walk", "commands", "Ljava/util/ArrayList;") (by decide +kernel)) (fun _ h9 => h9) rfl dX6_defer_37 ?_
      refine k_ip (k_V (As := []) (rest := []) ⟨hx, hb, hml, hown, hts⟩ hev hS (c_Jx4a65c_size_8abf5 l hk4.1.1) (cwV 0 hts gX6_defer_Jx4a65c_size_8abf5 rfl rfl rfl (by decide +kernel) ⟨Nat.le_of_ble_eq_true rfl, Nat.le_of_ble_eq_true rfl⟩) (x_recv hK ((hk4.1.1.rec).choose_spec) rfl) rfl hl.1 (Nat.le_of_ble_eq_true rfl) dX6_defer_40 (Nat.le_of_ble_eq_true rfl) (Nat.le_of_ble_eq_true rfl)) hS hnt hlk (fun _ _ h _ => h.elim) (Nat.le_of_ble_eq_true rfl) (Nat.le_of_ble_eq_true rfl) (fun rq8_ H8 locs8 hP hz8 hS => ?_)
      refine W.widen (k := 0 + 1) (n := 0 + 6) (Nat.le_refl _) (Nat.le_refl _) ?_
      obtain ⟨eH, er⟩ := hP
      have eH := eH.symm
      subst eH
      refine x_top (y := (nI ((wC (sW M)).1))) (er) ?_
      refine lv_bipush (v := nI 20) hx hb dX6_defer_43 (by decide) ?_
      refine y_icmp_lt hx hb (by omega) (Nat.le_of_ble_eq_true rfl) (tgt := 58) dX6_defer_45 (by decide) (fun c45 => ?_) (fun c45 => ?_)
      · have hcm := hk4.1.1.2.1
        have hdc := @dC_le zc.2.1 (wC (sW M)).1
        have hds := dS_le hk4.1.2.1 hk4.1.1.2.1 (show (wC (sW M)).1 < 64 by omega)
        refine lv_aload hx hb dX6_defer_58 (lv_at hl 0 rfl) ?_
        refine x_getN (C := RX5) (TT := TX5) (N := 3) (ci := 8) (v := .ref cl) hx hb hts in_X6_defer_RX5 hown hK (hk1) rfl 1 (by decide) (hev.2.2.2.2.1.2 ("Archeloft", 190, "Archeloft$Walk", "commands", "Ljava/util/ArrayList;") (by decide +kernel)) (fun _ h9 => h9) rfl dX6_defer_60 ?_
        refine x_new (C := RX0) (TT := TX0) (N := 4) (ci := 3) (fs := [.int 0, .int 0, .int 0, .int 0]) hx hb hts in_X6_defer_RX0 tyX0 tyX0_ok hown (hts (.classLink RX6 195 RX0) (by decide +kernel)) (hts (.instantiable RX0 4) (by decide +kernel)) (hts (.initialized RX0) (by decide +kernel)) hK hS rfl (by decide) (Nat.le_of_ble_eq_true rfl) (Nat.le_of_ble_eq_true rfl) dX6_defer_63 (fun H9 ho9 hz9 hq9 hS => ?_)
        have k1 : KP H H9 := ⟨by omega, hq9⟩
        refine lv_dup hx hb dX6_defer_66 rfl ?_
        refine lv_iload_n hx hb dX6_defer_67 rfl (lv_at hl 2 rfl) ?_
        refine lv_iload_n hx hb dX6_defer_68 rfl (lv_at hl 3 rfl) ?_
        refine lv_iload_n hx hb dX6_defer_69 rfl (lv_at hl 4 rfl) ?_
        refine lv_iload hx hb dX6_defer_70 (lv_at hl 5 rfl) ?_
        refine k_vp (k_I (As := [.int x1, .int x2, .int x3, .int x4]) (rest := [.ref H.size, .ref cl]) ⟨hx, hb, hml, hown, hts⟩ hev hS (c_X0_init l ho9 (hT.2.1 _ (Nat.le_refl _)) x1 x2 x3 x4) (cwI 4 hts gX6_defer_X0_init rfl rfl rfl (hts (.initialized RX0) (by decide +kernel)) (hts (.methodLink RX6 197 yX0_init) (by decide +kernel)) (hts (.instanceMethod yX0_init) (by decide +kernel)) rfl (by decide +kernel) ⟨Nat.le_of_ble_eq_true rfl, Nat.le_of_ble_eq_true rfl⟩) rfl hl.1 (Nat.le_of_ble_eq_true rfl) dX6_defer_72 (Nat.le_of_ble_eq_true rfl) (Nat.le_of_ble_eq_true rfl)) hS hnt hlk (fun _ _ h _ => h.elim) (Nat.le_of_ble_eq_true rfl) (Nat.le_of_ble_eq_true rfl) (fun H10 locs10 hP hz10 hS => ?_)
        refine W.widen (k := 0 + 1 + 1) (n := 0 + 6 + 4) (Nat.le_refl _) (Nat.le_refl _) ?_
        obtain ⟨hoi, hzi, hqi⟩ := hP
        have k2 : KP H H10 := ⟨by omega, fun q9 h9 => (hqi q9 (by omega)).trans (hq9 q9 h9)⟩
        have hzj : H10.size = H.size + 1 := by rw [hzi, hz9]
        refine k_ip (k_V (As := [.ref H.size]) (rest := []) ⟨hx, hb, hml, hown, hts⟩ hev hS (c_addL l (hk4.1.1.kept (k2.2 _ hk4.1.1.lt.1) (k2.2 _ hk4.1.1.lt.2)) hk4.1.2.1.lt (hk4.1.aa hT (by decide)) (hk4.1.aA hT) (fun q9 h9 => hT.2.1 q9 (by omega)) (ci := 3) (rr := (RX0, TX0, 4)) (fun x hx2 => ⟨fun z => absurd (show (306 : Nat) = 304 by rw [← (hk4.2 x hx2).2, ← hk4.1.2.2.1, z]) (by decide), _, (hk4.2 x hx2).1.kept (k2.2 _ (hk4.2 x hx2).1.lt)⟩) rfl (by decide +kernel) hoi (fun z => absurd (hT.lt hk4.1.2.2.1 (by decide)) (by omega))) (cwV 1 hts gX6_defer_Jx4a65c_add_9ea2d rfl rfl rfl (by decide +kernel) ⟨Nat.le_of_ble_eq_true rfl, Nat.le_of_ble_eq_true rfl⟩) (x_recv hK (((hk4.1.1.kept (k2.2 _ hk4.1.1.lt.1) (k2.2 _ hk4.1.1.lt.2)).rec).choose_spec) rfl) rfl hl.1 (Nat.le_of_ble_eq_true rfl) dX6_defer_75 (by show _ ≤ (3 : Nat); omega) (by show _ ≤ (83 : Nat); omega)) hS hnt hlk (fun _ _ h _ => h.elim) (by show _ ≤ (3 : Nat); omega) (by show _ ≤ (83 : Nat); omega) (fun rq11_ H11 locs11 hP hz11 hS => ?_)
        obtain ⟨-, hL7, hz7, hq7⟩ := hP
        obtain ⟨tg1, arr1, cap1, t1, tx1, l1, v1, f1⟩ := Rec.ad hT hk4.1 hk4.2 (by decide) (by decide) (by omega) hoi hzj k2.2 hL7 hz7 hq7
        have hk1 := ocF hk1 f1 hk2 (by omega)
        have hk7 := (tx1 _ (hT.lt hk2 (by decide))).trans hk2
        have hk5 := hk3.kept tx1 f1 (by omega) (by omega) (by omega)
        refine lv_pop hx hb dX6_defer_78 rfl ?_
        refine lv_aload hx hb dX6_defer_79 (lv_at hl 0 rfl) ?_
        refine x_getN (C := RX5) (TT := TX5) (N := 3) (ci := 8) (v := .ref cl) hx hb hts in_X6_defer_RX5 hown hK (hk1) rfl 1 (by decide) (hev.2.2.2.2.1.2 ("Archeloft", 190, "Archeloft$Walk", "commands", "Ljava/util/ArrayList;") (by decide +kernel)) (fun _ h9 => h9) rfl dX6_defer_81 ?_
        refine k_ip (k_V (As := []) (rest := []) ⟨hx, hb, hml, hown, hts⟩ hev hS (c_Jx4a65c_size_8abf5 l hL7) (cwV 0 hts gX6_defer_Jx4a65c_size_8abf5 rfl rfl rfl (by decide +kernel) ⟨Nat.le_of_ble_eq_true rfl, Nat.le_of_ble_eq_true rfl⟩) (x_recv hK ((hL7.rec).choose_spec) rfl) rfl hl.1 (Nat.le_of_ble_eq_true rfl) dX6_defer_84 (by show _ ≤ (3 : Nat); omega) (by show _ ≤ (83 : Nat); omega)) hS hnt hlk (fun _ _ h _ => h.elim) (by show _ ≤ (3 : Nat); omega) (by show _ ≤ (83 : Nat); omega) (fun rq12_ H12 locs12 hP hz12 hS => ?_)
        refine W.widen (k := 0 + 1 + 1 + (dC zc.2.1 (wC (sW M)).1)) (n := 0 + 6 + 4 + (dS zc.2.1 (wC (sW M)).1)) (Nat.le_refl _) (Nat.le_refl _) ?_
        obtain ⟨eH, er⟩ := hP
        have eH := eH.symm
        subst eH
        refine x_top (y := (nI (((wC (sW M)).1 + 1)))) (er) ?_
        exact r_i hx hb hrt9 hlk hS (by omega) (by omega) dX6_defer_87 (by
            rw [dfr_0 hin hon (by omega)]
            refine ⟨rfl, rfl, tg1, t1, tx1, Or.inr ⟨rfl, wk, al, aarr, acap, cl, (arr1, cap1, nu zc.2.2 (wC (sW M)).1 H.size), hwk, hk1, hk7, hk5, l1, fun i hi => ?_⟩, f1⟩
            obtain ⟨v2, v3⟩ := v1 i hi
            refine ⟨?_, v3⟩
            show oc D _ (nu zc.2.2 (wC (sW M)).1 H.size i) 3 [.int (nu (wC (sW M)).2.1 (wC (sW M)).1 x1 i), .int (nu (wC (sW M)).2.2.1 (wC (sW M)).1 x2 i), .int (nu (wC (sW M)).2.2.2.1 (wC (sW M)).1 x3 i), .int (nu (wC (sW M)).2.2.2.2 (wC (sW M)).1 x4 i)]
            by_cases c : i = (wC (sW M)).1
            · rw [if_pos c] at v2
              rw [c] at v2 ⊢
              simp only [nu_s] at v2 ⊢
              exact v2
            · rw [if_neg c] at v2
              rw [nu_n (f := (wC (sW M)).2.1) c, nu_n (f := (wC (sW M)).2.2.1) c, nu_n (f := (wC (sW M)).2.2.2.1) c, nu_n (f := (wC (sW M)).2.2.2.2) c]
              exact v2)
      · have h20 : (wC (sW M)).1 = 20 := by omega
        exact k_thr (cls := "java/lang/IllegalStateException") (text := "20 commands wait") (ik := 113) (is := 193) (ic := 117) hx hb hst hown hev hS (by decide +kernel) (hts (.classLink RX6 113 "java/lang/IllegalStateException") (by decide +kernel)) (hts (.initialized "java/lang/IllegalStateException") (by decide +kernel)) (by decide +kernel) (by decide +kernel) (fun w h => hts w (ta_X6_defer_117 w h)) (by decide +kernel) (by decide +kernel) (hl.1.trans hml.symm) dX6_defer_48 dX6_defer_51 dX6_defer_52 dX6_defer_54 dX6_defer_57 hnt (Nat.le_of_ble_eq_true rfl) (Nat.le_of_ble_eq_true rfl) (Nat.le_of_ble_eq_true rfl) (Nat.le_of_ble_eq_true rfl) hlk ((fun H1 h1 h2 => ⟨Or.inr ⟨rfl, by rw [dfr_2 hin (Or.inr h20)]; rfl⟩, h1, h2⟩)) (Nat.le_of_ble_eq_true rfl) (Nat.le_of_ble_eq_true rfl)
    · refine lv_iload_n hx hb dX6_defer_9 rfl (lv_at hl 1 rfl) ?_
      refine lv_iconst (v := nI 2) hx hb dX6_defer_10 (by decide) ?_
      refine lv_icmp_eq (tgt := 29) hx hb dX6_defer_11 (by decide) (fun c11 => ?_) (fun c11 => ?_)
      · have hin : inB x1 4 = true := by rw [c11]; decide
        refine lv_aload_n hx hb dX6_defer_29 rfl (lv_at hl 0 rfl) ?_
        refine k_qp (k_V (As := []) (rest := []) ⟨hx, hb, hml, hown, hts⟩ hev hS (c_X6_walkThatGoesOn l hst hX.1) (cwV 0 hts gX6_defer_X6_walkThatGoesOn rfl rfl rfl (by decide +kernel) ⟨Nat.le_of_ble_eq_true rfl, Nat.le_of_ble_eq_true rfl⟩) (x_recv hK hX.1 rfl) rfl hl.1 (Nat.le_of_ble_eq_true rfl) dX6_defer_30 (Nat.le_of_ble_eq_true rfl) (Nat.le_of_ble_eq_true rfl)) hS hnt hlk (fun E9 H9 h9 z9 => ⟨Or.inr ⟨h9.1.1, by rw [dfr_2 hin (Or.inl (wo_f hwo h9.1.2))]; rfl⟩, h9.2⟩) (Nat.le_of_ble_eq_true rfl) (Nat.le_of_ble_eq_true rfl) (fun rq13_ H13 locs13 hP hz13 hS => ?_)
        obtain ⟨eH, er, hwn⟩ := hP
        have eH := eH.symm
        subst eH
        obtain ⟨hon, wk, al, aarr, acap, cl, zc, hwk, hk1, hk2, hk3, hk4⟩ : wOn (sW M) = true ∧ ∃ (wk al aarr acap cl : Nat) (z : mLz), wo = some wk ∧ RepK D T dE b0 tg H (sW M) wk al aarr acap cl z := hW.elim (fun h => absurd h.2 hwn) id
        refine x_tov (y := .ref wk) (by rw [er, hwk]; rfl) ?_
        obtain ⟨iw1, iw2, iw3, iw4, iw5⟩ := iW hon
        refine lv_astore (lv' := [(5, .ref wk), (0, .ref b0), (1, .int x1), (2, .int x2), (3, .int x3), (4, .int x4)]) hx hb dX6_defer_33 hl (by decide) rfl (fun ls hl => ?_)
        refine lv_aload hx hb dX6_defer_35 (lv_at hl 0 rfl) ?_
        refine x_getN (C := RX5) (TT := TX5) (N := 3) (ci := 8) (v := .ref cl) hx hb hts in_X6_defer_RX5 hown hK (hk1) rfl 1 (by decide) (hev.2.2.2.2.1.2 ("Archeloft", 190, "Archeloft$Walk", "commands", "Ljava/util/ArrayList;") (by decide +kernel)) (fun _ h9 => h9) rfl dX6_defer_37 ?_
        refine k_ip (k_V (As := []) (rest := []) ⟨hx, hb, hml, hown, hts⟩ hev hS (c_Jx4a65c_size_8abf5 l hk4.1.1) (cwV 0 hts gX6_defer_Jx4a65c_size_8abf5 rfl rfl rfl (by decide +kernel) ⟨Nat.le_of_ble_eq_true rfl, Nat.le_of_ble_eq_true rfl⟩) (x_recv hK ((hk4.1.1.rec).choose_spec) rfl) rfl hl.1 (Nat.le_of_ble_eq_true rfl) dX6_defer_40 (Nat.le_of_ble_eq_true rfl) (Nat.le_of_ble_eq_true rfl)) hS hnt hlk (fun _ _ h _ => h.elim) (Nat.le_of_ble_eq_true rfl) (Nat.le_of_ble_eq_true rfl) (fun rq14_ H14 locs14 hP hz14 hS => ?_)
        refine W.widen (k := 0 + 1) (n := 0 + 6) (Nat.le_refl _) (Nat.le_refl _) ?_
        obtain ⟨eH, er⟩ := hP
        have eH := eH.symm
        subst eH
        refine x_top (y := (nI ((wC (sW M)).1))) (er) ?_
        refine lv_bipush (v := nI 20) hx hb dX6_defer_43 (by decide) ?_
        refine y_icmp_lt hx hb (by omega) (Nat.le_of_ble_eq_true rfl) (tgt := 58) dX6_defer_45 (by decide) (fun c45 => ?_) (fun c45 => ?_)
        · have hcm := hk4.1.1.2.1
          have hdc := @dC_le zc.2.1 (wC (sW M)).1
          have hds := dS_le hk4.1.2.1 hk4.1.1.2.1 (show (wC (sW M)).1 < 64 by omega)
          refine lv_aload hx hb dX6_defer_58 (lv_at hl 0 rfl) ?_
          refine x_getN (C := RX5) (TT := TX5) (N := 3) (ci := 8) (v := .ref cl) hx hb hts in_X6_defer_RX5 hown hK (hk1) rfl 1 (by decide) (hev.2.2.2.2.1.2 ("Archeloft", 190, "Archeloft$Walk", "commands", "Ljava/util/ArrayList;") (by decide +kernel)) (fun _ h9 => h9) rfl dX6_defer_60 ?_
          refine x_new (C := RX0) (TT := TX0) (N := 4) (ci := 3) (fs := [.int 0, .int 0, .int 0, .int 0]) hx hb hts in_X6_defer_RX0 tyX0 tyX0_ok hown (hts (.classLink RX6 195 RX0) (by decide +kernel)) (hts (.instantiable RX0 4) (by decide +kernel)) (hts (.initialized RX0) (by decide +kernel)) hK hS rfl (by decide) (Nat.le_of_ble_eq_true rfl) (Nat.le_of_ble_eq_true rfl) dX6_defer_63 (fun H15 ho15 hz15 hq15 hS => ?_)
          have k1 : KP H H15 := ⟨by omega, hq15⟩
          refine lv_dup hx hb dX6_defer_66 rfl ?_
          refine lv_iload_n hx hb dX6_defer_67 rfl (lv_at hl 2 rfl) ?_
          refine lv_iload_n hx hb dX6_defer_68 rfl (lv_at hl 3 rfl) ?_
          refine lv_iload_n hx hb dX6_defer_69 rfl (lv_at hl 4 rfl) ?_
          refine lv_iload hx hb dX6_defer_70 (lv_at hl 5 rfl) ?_
          refine k_vp (k_I (As := [.int x1, .int x2, .int x3, .int x4]) (rest := [.ref H.size, .ref cl]) ⟨hx, hb, hml, hown, hts⟩ hev hS (c_X0_init l ho15 (hT.2.1 _ (Nat.le_refl _)) x1 x2 x3 x4) (cwI 4 hts gX6_defer_X0_init rfl rfl rfl (hts (.initialized RX0) (by decide +kernel)) (hts (.methodLink RX6 197 yX0_init) (by decide +kernel)) (hts (.instanceMethod yX0_init) (by decide +kernel)) rfl (by decide +kernel) ⟨Nat.le_of_ble_eq_true rfl, Nat.le_of_ble_eq_true rfl⟩) rfl hl.1 (Nat.le_of_ble_eq_true rfl) dX6_defer_72 (Nat.le_of_ble_eq_true rfl) (Nat.le_of_ble_eq_true rfl)) hS hnt hlk (fun _ _ h _ => h.elim) (Nat.le_of_ble_eq_true rfl) (Nat.le_of_ble_eq_true rfl) (fun H16 locs16 hP hz16 hS => ?_)
          refine W.widen (k := 0 + 1 + 1) (n := 0 + 6 + 4) (Nat.le_refl _) (Nat.le_refl _) ?_
          obtain ⟨hoi, hzi, hqi⟩ := hP
          have k2 : KP H H16 := ⟨by omega, fun q9 h9 => (hqi q9 (by omega)).trans (hq15 q9 h9)⟩
          have hzj : H16.size = H.size + 1 := by rw [hzi, hz15]
          refine k_ip (k_V (As := [.ref H.size]) (rest := []) ⟨hx, hb, hml, hown, hts⟩ hev hS (c_addL l (hk4.1.1.kept (k2.2 _ hk4.1.1.lt.1) (k2.2 _ hk4.1.1.lt.2)) hk4.1.2.1.lt (hk4.1.aa hT (by decide)) (hk4.1.aA hT) (fun q9 h9 => hT.2.1 q9 (by omega)) (ci := 3) (rr := (RX0, TX0, 4)) (fun x hx2 => ⟨fun z => absurd (show (306 : Nat) = 304 by rw [← (hk4.2 x hx2).2, ← hk4.1.2.2.1, z]) (by decide), _, (hk4.2 x hx2).1.kept (k2.2 _ (hk4.2 x hx2).1.lt)⟩) rfl (by decide +kernel) hoi (fun z => absurd (hT.lt hk4.1.2.2.1 (by decide)) (by omega))) (cwV 1 hts gX6_defer_Jx4a65c_add_9ea2d rfl rfl rfl (by decide +kernel) ⟨Nat.le_of_ble_eq_true rfl, Nat.le_of_ble_eq_true rfl⟩) (x_recv hK (((hk4.1.1.kept (k2.2 _ hk4.1.1.lt.1) (k2.2 _ hk4.1.1.lt.2)).rec).choose_spec) rfl) rfl hl.1 (Nat.le_of_ble_eq_true rfl) dX6_defer_75 (by show _ ≤ (3 : Nat); omega) (by show _ ≤ (83 : Nat); omega)) hS hnt hlk (fun _ _ h _ => h.elim) (by show _ ≤ (3 : Nat); omega) (by show _ ≤ (83 : Nat); omega) (fun rq17_ H17 locs17 hP hz17 hS => ?_)
          obtain ⟨-, hL7, hz7, hq7⟩ := hP
          obtain ⟨tg1, arr1, cap1, t1, tx1, l1, v1, f1⟩ := Rec.ad hT hk4.1 hk4.2 (by decide) (by decide) (by omega) hoi hzj k2.2 hL7 hz7 hq7
          have hk1 := ocF hk1 f1 hk2 (by omega)
          have hk7 := (tx1 _ (hT.lt hk2 (by decide))).trans hk2
          have hk5 := hk3.kept tx1 f1 (by omega) (by omega) (by omega)
          refine lv_pop hx hb dX6_defer_78 rfl ?_
          refine lv_aload hx hb dX6_defer_79 (lv_at hl 0 rfl) ?_
          refine x_getN (C := RX5) (TT := TX5) (N := 3) (ci := 8) (v := .ref cl) hx hb hts in_X6_defer_RX5 hown hK (hk1) rfl 1 (by decide) (hev.2.2.2.2.1.2 ("Archeloft", 190, "Archeloft$Walk", "commands", "Ljava/util/ArrayList;") (by decide +kernel)) (fun _ h9 => h9) rfl dX6_defer_81 ?_
          refine k_ip (k_V (As := []) (rest := []) ⟨hx, hb, hml, hown, hts⟩ hev hS (c_Jx4a65c_size_8abf5 l hL7) (cwV 0 hts gX6_defer_Jx4a65c_size_8abf5 rfl rfl rfl (by decide +kernel) ⟨Nat.le_of_ble_eq_true rfl, Nat.le_of_ble_eq_true rfl⟩) (x_recv hK ((hL7.rec).choose_spec) rfl) rfl hl.1 (Nat.le_of_ble_eq_true rfl) dX6_defer_84 (by show _ ≤ (3 : Nat); omega) (by show _ ≤ (83 : Nat); omega)) hS hnt hlk (fun _ _ h _ => h.elim) (by show _ ≤ (3 : Nat); omega) (by show _ ≤ (83 : Nat); omega) (fun rq18_ H18 locs18 hP hz18 hS => ?_)
          refine W.widen (k := 0 + 1 + 1 + (dC zc.2.1 (wC (sW M)).1)) (n := 0 + 6 + 4 + (dS zc.2.1 (wC (sW M)).1)) (Nat.le_refl _) (Nat.le_refl _) ?_
          obtain ⟨eH, er⟩ := hP
          have eH := eH.symm
          subst eH
          refine x_top (y := (nI (((wC (sW M)).1 + 1)))) (er) ?_
          exact r_i hx hb hrt9 hlk hS (by omega) (by omega) dX6_defer_87 (by
              rw [dfr_0 hin hon (by omega)]
              refine ⟨rfl, rfl, tg1, t1, tx1, Or.inr ⟨rfl, wk, al, aarr, acap, cl, (arr1, cap1, nu zc.2.2 (wC (sW M)).1 H.size), hwk, hk1, hk7, hk5, l1, fun i hi => ?_⟩, f1⟩
              obtain ⟨v2, v3⟩ := v1 i hi
              refine ⟨?_, v3⟩
              show oc D _ (nu zc.2.2 (wC (sW M)).1 H.size i) 3 [.int (nu (wC (sW M)).2.1 (wC (sW M)).1 x1 i), .int (nu (wC (sW M)).2.2.1 (wC (sW M)).1 x2 i), .int (nu (wC (sW M)).2.2.2.1 (wC (sW M)).1 x3 i), .int (nu (wC (sW M)).2.2.2.2 (wC (sW M)).1 x4 i)]
              by_cases c : i = (wC (sW M)).1
              · rw [if_pos c] at v2
                rw [c] at v2 ⊢
                simp only [nu_s] at v2 ⊢
                exact v2
              · rw [if_neg c] at v2
                rw [nu_n (f := (wC (sW M)).2.1) c, nu_n (f := (wC (sW M)).2.2.1) c, nu_n (f := (wC (sW M)).2.2.2.1) c, nu_n (f := (wC (sW M)).2.2.2.2) c]
                exact v2)
        · have h20 : (wC (sW M)).1 = 20 := by omega
          exact k_thr (cls := "java/lang/IllegalStateException") (text := "20 commands wait") (ik := 113) (is := 193) (ic := 117) hx hb hst hown hev hS (by decide +kernel) (hts (.classLink RX6 113 "java/lang/IllegalStateException") (by decide +kernel)) (hts (.initialized "java/lang/IllegalStateException") (by decide +kernel)) (by decide +kernel) (by decide +kernel) (fun w h => hts w (ta_X6_defer_117 w h)) (by decide +kernel) (by decide +kernel) (hl.1.trans hml.symm) dX6_defer_48 dX6_defer_51 dX6_defer_52 dX6_defer_54 dX6_defer_57 hnt (Nat.le_of_ble_eq_true rfl) (Nat.le_of_ble_eq_true rfl) (Nat.le_of_ble_eq_true rfl) (Nat.le_of_ble_eq_true rfl) hlk ((fun H1 h1 h2 => ⟨Or.inr ⟨rfl, by rw [dfr_2 hin (Or.inr h20)]; rfl⟩, h1, h2⟩)) (Nat.le_of_ble_eq_true rfl) (Nat.le_of_ble_eq_true rfl)
      · refine lv_iload_n hx hb dX6_defer_14 rfl (lv_at hl 1 rfl) ?_
        refine lv_iconst (v := nI 3) hx hb dX6_defer_15 (by decide) ?_
        refine lv_icmp_eq (tgt := 29) hx hb dX6_defer_16 (by decide) (fun c16 => ?_) (fun c16 => ?_)
        · have hin : inB x1 4 = true := by rw [c16]; decide
          refine lv_aload_n hx hb dX6_defer_29 rfl (lv_at hl 0 rfl) ?_
          refine k_qp (k_V (As := []) (rest := []) ⟨hx, hb, hml, hown, hts⟩ hev hS (c_X6_walkThatGoesOn l hst hX.1) (cwV 0 hts gX6_defer_X6_walkThatGoesOn rfl rfl rfl (by decide +kernel) ⟨Nat.le_of_ble_eq_true rfl, Nat.le_of_ble_eq_true rfl⟩) (x_recv hK hX.1 rfl) rfl hl.1 (Nat.le_of_ble_eq_true rfl) dX6_defer_30 (Nat.le_of_ble_eq_true rfl) (Nat.le_of_ble_eq_true rfl)) hS hnt hlk (fun E9 H9 h9 z9 => ⟨Or.inr ⟨h9.1.1, by rw [dfr_2 hin (Or.inl (wo_f hwo h9.1.2))]; rfl⟩, h9.2⟩) (Nat.le_of_ble_eq_true rfl) (Nat.le_of_ble_eq_true rfl) (fun rq19_ H19 locs19 hP hz19 hS => ?_)
          obtain ⟨eH, er, hwn⟩ := hP
          have eH := eH.symm
          subst eH
          obtain ⟨hon, wk, al, aarr, acap, cl, zc, hwk, hk1, hk2, hk3, hk4⟩ : wOn (sW M) = true ∧ ∃ (wk al aarr acap cl : Nat) (z : mLz), wo = some wk ∧ RepK D T dE b0 tg H (sW M) wk al aarr acap cl z := hW.elim (fun h => absurd h.2 hwn) id
          refine x_tov (y := .ref wk) (by rw [er, hwk]; rfl) ?_
          obtain ⟨iw1, iw2, iw3, iw4, iw5⟩ := iW hon
          refine lv_astore (lv' := [(5, .ref wk), (0, .ref b0), (1, .int x1), (2, .int x2), (3, .int x3), (4, .int x4)]) hx hb dX6_defer_33 hl (by decide) rfl (fun ls hl => ?_)
          refine lv_aload hx hb dX6_defer_35 (lv_at hl 0 rfl) ?_
          refine x_getN (C := RX5) (TT := TX5) (N := 3) (ci := 8) (v := .ref cl) hx hb hts in_X6_defer_RX5 hown hK (hk1) rfl 1 (by decide) (hev.2.2.2.2.1.2 ("Archeloft", 190, "Archeloft$Walk", "commands", "Ljava/util/ArrayList;") (by decide +kernel)) (fun _ h9 => h9) rfl dX6_defer_37 ?_
          refine k_ip (k_V (As := []) (rest := []) ⟨hx, hb, hml, hown, hts⟩ hev hS (c_Jx4a65c_size_8abf5 l hk4.1.1) (cwV 0 hts gX6_defer_Jx4a65c_size_8abf5 rfl rfl rfl (by decide +kernel) ⟨Nat.le_of_ble_eq_true rfl, Nat.le_of_ble_eq_true rfl⟩) (x_recv hK ((hk4.1.1.rec).choose_spec) rfl) rfl hl.1 (Nat.le_of_ble_eq_true rfl) dX6_defer_40 (Nat.le_of_ble_eq_true rfl) (Nat.le_of_ble_eq_true rfl)) hS hnt hlk (fun _ _ h _ => h.elim) (Nat.le_of_ble_eq_true rfl) (Nat.le_of_ble_eq_true rfl) (fun rq20_ H20 locs20 hP hz20 hS => ?_)
          refine W.widen (k := 0 + 1) (n := 0 + 6) (Nat.le_refl _) (Nat.le_refl _) ?_
          obtain ⟨eH, er⟩ := hP
          have eH := eH.symm
          subst eH
          refine x_top (y := (nI ((wC (sW M)).1))) (er) ?_
          refine lv_bipush (v := nI 20) hx hb dX6_defer_43 (by decide) ?_
          refine y_icmp_lt hx hb (by omega) (Nat.le_of_ble_eq_true rfl) (tgt := 58) dX6_defer_45 (by decide) (fun c45 => ?_) (fun c45 => ?_)
          · have hcm := hk4.1.1.2.1
            have hdc := @dC_le zc.2.1 (wC (sW M)).1
            have hds := dS_le hk4.1.2.1 hk4.1.1.2.1 (show (wC (sW M)).1 < 64 by omega)
            refine lv_aload hx hb dX6_defer_58 (lv_at hl 0 rfl) ?_
            refine x_getN (C := RX5) (TT := TX5) (N := 3) (ci := 8) (v := .ref cl) hx hb hts in_X6_defer_RX5 hown hK (hk1) rfl 1 (by decide) (hev.2.2.2.2.1.2 ("Archeloft", 190, "Archeloft$Walk", "commands", "Ljava/util/ArrayList;") (by decide +kernel)) (fun _ h9 => h9) rfl dX6_defer_60 ?_
            refine x_new (C := RX0) (TT := TX0) (N := 4) (ci := 3) (fs := [.int 0, .int 0, .int 0, .int 0]) hx hb hts in_X6_defer_RX0 tyX0 tyX0_ok hown (hts (.classLink RX6 195 RX0) (by decide +kernel)) (hts (.instantiable RX0 4) (by decide +kernel)) (hts (.initialized RX0) (by decide +kernel)) hK hS rfl (by decide) (Nat.le_of_ble_eq_true rfl) (Nat.le_of_ble_eq_true rfl) dX6_defer_63 (fun H21 ho21 hz21 hq21 hS => ?_)
            have k1 : KP H H21 := ⟨by omega, hq21⟩
            refine lv_dup hx hb dX6_defer_66 rfl ?_
            refine lv_iload_n hx hb dX6_defer_67 rfl (lv_at hl 2 rfl) ?_
            refine lv_iload_n hx hb dX6_defer_68 rfl (lv_at hl 3 rfl) ?_
            refine lv_iload_n hx hb dX6_defer_69 rfl (lv_at hl 4 rfl) ?_
            refine lv_iload hx hb dX6_defer_70 (lv_at hl 5 rfl) ?_
            refine k_vp (k_I (As := [.int x1, .int x2, .int x3, .int x4]) (rest := [.ref H.size, .ref cl]) ⟨hx, hb, hml, hown, hts⟩ hev hS (c_X0_init l ho21 (hT.2.1 _ (Nat.le_refl _)) x1 x2 x3 x4) (cwI 4 hts gX6_defer_X0_init rfl rfl rfl (hts (.initialized RX0) (by decide +kernel)) (hts (.methodLink RX6 197 yX0_init) (by decide +kernel)) (hts (.instanceMethod yX0_init) (by decide +kernel)) rfl (by decide +kernel) ⟨Nat.le_of_ble_eq_true rfl, Nat.le_of_ble_eq_true rfl⟩) rfl hl.1 (Nat.le_of_ble_eq_true rfl) dX6_defer_72 (Nat.le_of_ble_eq_true rfl) (Nat.le_of_ble_eq_true rfl)) hS hnt hlk (fun _ _ h _ => h.elim) (Nat.le_of_ble_eq_true rfl) (Nat.le_of_ble_eq_true rfl) (fun H22 locs22 hP hz22 hS => ?_)
            refine W.widen (k := 0 + 1 + 1) (n := 0 + 6 + 4) (Nat.le_refl _) (Nat.le_refl _) ?_
            obtain ⟨hoi, hzi, hqi⟩ := hP
            have k2 : KP H H22 := ⟨by omega, fun q9 h9 => (hqi q9 (by omega)).trans (hq21 q9 h9)⟩
            have hzj : H22.size = H.size + 1 := by rw [hzi, hz21]
            refine k_ip (k_V (As := [.ref H.size]) (rest := []) ⟨hx, hb, hml, hown, hts⟩ hev hS (c_addL l (hk4.1.1.kept (k2.2 _ hk4.1.1.lt.1) (k2.2 _ hk4.1.1.lt.2)) hk4.1.2.1.lt (hk4.1.aa hT (by decide)) (hk4.1.aA hT) (fun q9 h9 => hT.2.1 q9 (by omega)) (ci := 3) (rr := (RX0, TX0, 4)) (fun x hx2 => ⟨fun z => absurd (show (306 : Nat) = 304 by rw [← (hk4.2 x hx2).2, ← hk4.1.2.2.1, z]) (by decide), _, (hk4.2 x hx2).1.kept (k2.2 _ (hk4.2 x hx2).1.lt)⟩) rfl (by decide +kernel) hoi (fun z => absurd (hT.lt hk4.1.2.2.1 (by decide)) (by omega))) (cwV 1 hts gX6_defer_Jx4a65c_add_9ea2d rfl rfl rfl (by decide +kernel) ⟨Nat.le_of_ble_eq_true rfl, Nat.le_of_ble_eq_true rfl⟩) (x_recv hK (((hk4.1.1.kept (k2.2 _ hk4.1.1.lt.1) (k2.2 _ hk4.1.1.lt.2)).rec).choose_spec) rfl) rfl hl.1 (Nat.le_of_ble_eq_true rfl) dX6_defer_75 (by show _ ≤ (3 : Nat); omega) (by show _ ≤ (83 : Nat); omega)) hS hnt hlk (fun _ _ h _ => h.elim) (by show _ ≤ (3 : Nat); omega) (by show _ ≤ (83 : Nat); omega) (fun rq23_ H23 locs23 hP hz23 hS => ?_)
            obtain ⟨-, hL7, hz7, hq7⟩ := hP
            obtain ⟨tg1, arr1, cap1, t1, tx1, l1, v1, f1⟩ := Rec.ad hT hk4.1 hk4.2 (by decide) (by decide) (by omega) hoi hzj k2.2 hL7 hz7 hq7
            have hk1 := ocF hk1 f1 hk2 (by omega)
            have hk7 := (tx1 _ (hT.lt hk2 (by decide))).trans hk2
            have hk5 := hk3.kept tx1 f1 (by omega) (by omega) (by omega)
            refine lv_pop hx hb dX6_defer_78 rfl ?_
            refine lv_aload hx hb dX6_defer_79 (lv_at hl 0 rfl) ?_
            refine x_getN (C := RX5) (TT := TX5) (N := 3) (ci := 8) (v := .ref cl) hx hb hts in_X6_defer_RX5 hown hK (hk1) rfl 1 (by decide) (hev.2.2.2.2.1.2 ("Archeloft", 190, "Archeloft$Walk", "commands", "Ljava/util/ArrayList;") (by decide +kernel)) (fun _ h9 => h9) rfl dX6_defer_81 ?_
            refine k_ip (k_V (As := []) (rest := []) ⟨hx, hb, hml, hown, hts⟩ hev hS (c_Jx4a65c_size_8abf5 l hL7) (cwV 0 hts gX6_defer_Jx4a65c_size_8abf5 rfl rfl rfl (by decide +kernel) ⟨Nat.le_of_ble_eq_true rfl, Nat.le_of_ble_eq_true rfl⟩) (x_recv hK ((hL7.rec).choose_spec) rfl) rfl hl.1 (Nat.le_of_ble_eq_true rfl) dX6_defer_84 (by show _ ≤ (3 : Nat); omega) (by show _ ≤ (83 : Nat); omega)) hS hnt hlk (fun _ _ h _ => h.elim) (by show _ ≤ (3 : Nat); omega) (by show _ ≤ (83 : Nat); omega) (fun rq24_ H24 locs24 hP hz24 hS => ?_)
            refine W.widen (k := 0 + 1 + 1 + (dC zc.2.1 (wC (sW M)).1)) (n := 0 + 6 + 4 + (dS zc.2.1 (wC (sW M)).1)) (Nat.le_refl _) (Nat.le_refl _) ?_
            obtain ⟨eH, er⟩ := hP
            have eH := eH.symm
            subst eH
            refine x_top (y := (nI (((wC (sW M)).1 + 1)))) (er) ?_
            exact r_i hx hb hrt9 hlk hS (by omega) (by omega) dX6_defer_87 (by
                rw [dfr_0 hin hon (by omega)]
                refine ⟨rfl, rfl, tg1, t1, tx1, Or.inr ⟨rfl, wk, al, aarr, acap, cl, (arr1, cap1, nu zc.2.2 (wC (sW M)).1 H.size), hwk, hk1, hk7, hk5, l1, fun i hi => ?_⟩, f1⟩
                obtain ⟨v2, v3⟩ := v1 i hi
                refine ⟨?_, v3⟩
                show oc D _ (nu zc.2.2 (wC (sW M)).1 H.size i) 3 [.int (nu (wC (sW M)).2.1 (wC (sW M)).1 x1 i), .int (nu (wC (sW M)).2.2.1 (wC (sW M)).1 x2 i), .int (nu (wC (sW M)).2.2.2.1 (wC (sW M)).1 x3 i), .int (nu (wC (sW M)).2.2.2.2 (wC (sW M)).1 x4 i)]
                by_cases c : i = (wC (sW M)).1
                · rw [if_pos c] at v2
                  rw [c] at v2 ⊢
                  simp only [nu_s] at v2 ⊢
                  exact v2
                · rw [if_neg c] at v2
                  rw [nu_n (f := (wC (sW M)).2.1) c, nu_n (f := (wC (sW M)).2.2.1) c, nu_n (f := (wC (sW M)).2.2.2.1) c, nu_n (f := (wC (sW M)).2.2.2.2) c]
                  exact v2)
          · have h20 : (wC (sW M)).1 = 20 := by omega
            exact k_thr (cls := "java/lang/IllegalStateException") (text := "20 commands wait") (ik := 113) (is := 193) (ic := 117) hx hb hst hown hev hS (by decide +kernel) (hts (.classLink RX6 113 "java/lang/IllegalStateException") (by decide +kernel)) (hts (.initialized "java/lang/IllegalStateException") (by decide +kernel)) (by decide +kernel) (by decide +kernel) (fun w h => hts w (ta_X6_defer_117 w h)) (by decide +kernel) (by decide +kernel) (hl.1.trans hml.symm) dX6_defer_48 dX6_defer_51 dX6_defer_52 dX6_defer_54 dX6_defer_57 hnt (Nat.le_of_ble_eq_true rfl) (Nat.le_of_ble_eq_true rfl) (Nat.le_of_ble_eq_true rfl) (Nat.le_of_ble_eq_true rfl) hlk ((fun H1 h1 h2 => ⟨Or.inr ⟨rfl, by rw [dfr_2 hin (Or.inr h20)]; rfl⟩, h1, h2⟩)) (Nat.le_of_ble_eq_true rfl) (Nat.le_of_ble_eq_true rfl)
        · have hin := inB4_f c1 c6 c11 c16
          exact k_thr (cls := "java/lang/IllegalArgumentException") (text := "there is no such command") (ik := 185) (is := 187) (ic := 189) hx hb hst hown hev hS (by decide +kernel) (hts (.classLink RX6 185 "java/lang/IllegalArgumentException") (by decide +kernel)) (hts (.initialized "java/lang/IllegalArgumentException") (by decide +kernel)) (by decide +kernel) (by decide +kernel) (fun w h => hts w (ta_X6_defer_189 w h)) (by decide +kernel) (by decide +kernel) (hl.1.trans hml.symm) dX6_defer_19 dX6_defer_22 dX6_defer_23 dX6_defer_25 dX6_defer_28 hnt (Nat.le_of_ble_eq_true rfl) (Nat.le_of_ble_eq_true rfl) (Nat.le_of_ble_eq_true rfl) (Nat.le_of_ble_eq_true rfl) hlk ((fun H1 h1 h2 => ⟨Or.inl ⟨rfl, by rw [dfr_1 hin]; rfl⟩, h1, h2⟩)) (Nat.le_of_ble_eq_true rfl) (Nat.le_of_ble_eq_true rfl)

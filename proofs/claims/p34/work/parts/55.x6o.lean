theorem PE.vals {D : va_G} {T : Nat → ClassId} {b sl : Nat} {H : Heap} {E : mE} (h : PE D T b H E) (hs32 : sl < 32) : ∃ fv fm : Nat → Int32, ic (T 0) H (ea b sl + 1) 6 fv ∧ ic (T 0) H (ea b sl + 2) 6 fm ∧ ∀ i, i < 6 → fv i = mVal E sl i ∧ fm i = mMk E sl i := (h sl hs32).2
theorem FR.vals {tg : Nat → Nat} {A : Nat → Prop} {b sl : Nat} {H H0 H1 : Heap} (hT : TG A b H0 tg) (hs32 : sl < 32) (hz : H1.size = H.size) (e : ∀ q : Nat, q ≠ ea b sl + 1 → q ≠ ea b sl + 2 → H1[q]? = H[q]?) : FR tg (fun t => t = 5) H H1 := ⟨by omega, fun q _ h2 => e q (fun z => h2 (by rw [z]; exact hT.2.2.2.2 _ (by unfold ea; omega) (by unfold ea; omega))) (fun z => h2 (by rw [z]; exact hT.2.2.2.2 _ (by unfold ea; omega) (by unfold ea; omega)))⟩
theorem add_1 {M : mSt} {x kd v : Int32} (h : look (sE M) x = none) : oAdd M x kd v = oErr M 1 := by unfold oAdd; rw [h]
theorem add_2 {M : mSt} {x kd v : Int32} {sl : Nat} (h : look (sE M) x = some sl) (h2 : isK kd = false) : oAdd M x kd v = oErr M 2 := by unfold oAdd; rw [h]; exact if_pos h2
theorem add_3 {M : mSt} {x v : Int32} {sl i : Nat} (h : look (sE M) x = some sl) (hi : i < 6) (h2 : isK (nI i) = true) (h3 : bitS (mKd (sE M) sl) i = true ∨ wOn (sW M) = true) : oAdd M x (nI i) v = oErr M 3 := by
  unfold oAdd; rw [h]
  show (if isK (nI i) = false then _ else if _ then _ else _) = _
  rw [if_neg (by rw [h2]; decide), ix_nI (by omega), if_pos h3]
theorem add_0 {M : mSt} {x v : Int32} {sl i : Nat} (h : look (sE M) x = some sl) (hi : i < 6) (h2 : isK (nI i) = true) (h3 : bitS (mKd (sE M) sl) i = false) (h4 : ¬ wOn (sW M) = true) : oAdd M x (nI i) v = (0, nI (setB (mKd (sE M) sl) i), wER M (addsE (sE M) sl i v (sT M)) (addsR (sE M) (sR M) sl i)) := by
  unfold oAdd; rw [h]
  show (if isK (nI i) = false then _ else if _ then _ else _) = _
  rw [if_neg (by rw [h2]; decide), ix_nI (by omega), if_neg (fun z => z.elim (fun z => by rw [h3] at z; cases z) h4)]
theorem take_e {M : mSt} {x kd : Int32} (h : (ask M x kd).1 ≠ 0) : oTake M x kd = oErr M (ask M x kd).1 := if_pos h
theorem take_3 {M : mSt} {x kd : Int32} {sl i : Nat} (h : ask M x kd = (0, sl, i)) (h2 : wOn (sW M) = true) : oTake M x kd = oErr M 3 := by
  unfold oTake; rw [h]
  exact (if_neg (fun z => z rfl)).trans (if_pos h2)
theorem take_0 {M : mSt} {x kd : Int32} {sl i : Nat} (h : ask M x kd = (0, sl, i)) (h2 : ¬ wOn (sW M) = true) : oTake M x kd = (0, mVal (sE M) sl i, wER M (takesE (sE M) sl i) (takesR (sE M) (sR M) sl i)) := by
  unfold oTake; rw [h]
  exact (if_neg (fun z => z rfl)).trans (if_neg h2)
theorem XA.of {H H1 : Heap} {c : Nat} {E9 : String} (hk : KP H H1) (h : (E9 = "java/util/NoSuchElementException" ∧ c = 1) ∨ (E9 = "java/lang/IllegalArgumentException" ∧ c = 2) ∨ (E9 = "java/lang/IllegalStateException" ∧ c = 3)) : XA H c E9 H1 := ⟨h, hk⟩
theorem ask_c {M : mSt} {x kd : Int32} : (ask M x kd).1 = 0 ∨ (ask M x kd).1 = 1 ∨ (ask M x kd).1 = 2 ∨ (ask M x kd).1 = 3 := by
  unfold ask
  split
  · exact Or.inr (Or.inl rfl)
  · split
    · exact Or.inr (Or.inr (Or.inl rfl))
    · split
      · exact Or.inr (Or.inr (Or.inr rfl))
      · exact Or.inl rfl
theorem XA.tk {H H1 : Heap} {M : mSt} {x kd : Int32} {E9 : String} (h : XA H (ask M x kd).1 E9 H1) : XA H (oTake M x kd).1 E9 H1 := by
  have hne : (ask M x kd).1 ≠ 0 := fun z => by rcases h.1 with h | h | h <;> (have := h.2; omega)
  rw [take_e hne]; exact h
set_option maxRecDepth 100000 in
theorem ta_X6_add_117 : ∀ w ∈ (vx_atS RX6 117 "java/lang/IllegalStateException" ["java/lang/RuntimeException", "java/lang/Exception"]).filter goodWord, w ∈ wsX6_add := by decide +kernel
set_option maxRecDepth 100000 in
theorem in_X6_add_RX1 : ∀ w ∈ wsX10, w ∈ wsX6_add := by decide +kernel
set_option maxRecDepth 100000 in
theorem in_X6_add_RX6 : ∀ w ∈ wsX60, w ∈ wsX6_add := by decide +kernel
set_option maxHeartbeats 4000000 in
set_option maxRecDepth 100000 in
theorem c_X6_add (l : Launch) {D : va_G} {T : Nat → ClassId} {dE mi : Nat} (hst : l.stackTraces = false) {A : Nat → Prop} {H : Heap} {b0 : Nat} {tg : Nat → Nat} {wo : Option Nat} {M : mSt} {y : mLy} (hC : Core D T dE b0 tg H A (sE M) (sR M) y wo (sT M)) (iE : InvE (sE M)) (iR : InvR (sE M) (sR M)) (hwo : wOn (sW M) = wo.isSome) (x kd v : Int32) : vx_Met l yX6_add wsX6_add (rmL 10 7 129) (PcE D T dE mi A H [.ref b0, .int x, .int kd, .int v]) (QI A (fun r H1 => (oAdd M x kd v).1 = 0 ∧ r = (oAdd M x kd v).2.1 ∧ Nxt D T dE b0 A tg H H1 (sE (oAdd M x kd v).2.2) (sR (oAdd M x kd v).2.2) wo (sT M))) (XX A (XA H (oAdd M x kd v).1)) 7 129 A := by
  refine entry (cc := cX6_add) (maxL := 5) (ret := (some .int)) (by decide) rfl (Nat.le_of_ble_eq_true rfl) ?_
  intro p e s m args below meth c hx hb hrt9 hml hown hts hlk hnt hnm hev hS ls hl
  have hown : s.vm.findClass RX6 = some m.cls := hown
  have hK := hev.1
  have hl : lv_has ls 5 [(0, .ref b0), (1, .int x), (2, .int kd), (3, .int v)] := hl
  obtain ⟨hT, hX, hE, hR⟩ := id hC
  refine lv_aload_n hx hb dX6_add_0 rfl (lv_at hl 0 rfl) ?_
  refine lv_iload_n hx hb dX6_add_1 rfl (lv_at hl 1 rfl) ?_
  refine k_qp (k_V (As := [.int x]) (rest := []) ⟨hx, hb, hml, hown, hts⟩ hev hS (c_X6_entityOf l hst hX hE x) (cwV 1 hts gX6_add_X6_entityOf rfl rfl rfl (by decide +kernel) ⟨Nat.le_of_ble_eq_true rfl, Nat.le_of_ble_eq_true rfl⟩) (x_recv hK hX.1 rfl) rfl hl.1 (Nat.le_of_ble_eq_true rfl) dX6_add_2 (Nat.le_of_ble_eq_true rfl) (Nat.le_of_ble_eq_true rfl)) hS hnt hlk (fun E9 H9 h9 z9 => XA.of h9.2 (Or.inl ⟨h9.1.1, by rw [add_1 h9.1.2]; rfl⟩)) (Nat.le_of_ble_eq_true rfl) (Nat.le_of_ble_eq_true rfl) (fun rq1_ H1 locs1 hP hz1 hS => ?_)
  obtain ⟨eH, sl, hlk9, er⟩ := hP
  have eH := eH.symm
  subst eH
  refine x_tov (y := .ref ((ea b0 sl))) (by rw [er]; rfl) ?_
  obtain ⟨hs32, hsal, -⟩ := look_some hlk9
  refine lv_astore (lv' := [(4, .ref ((ea b0 sl))), (0, .ref b0), (1, .int x), (2, .int kd), (3, .int v)]) hx hb dX6_add_5 hl (by decide) rfl (fun ls hl => ?_)
  refine lv_iload_n hx hb dX6_add_7 rfl (lv_at hl 3 rfl) ?_
  refine k_vp (k_S (As := [.int kd]) (rest := []) ⟨hx, hb, hml, hown, hts⟩ hev hS (c_X6_refuseNoKind l hst kd) (va_cwS 1 hts gX6_add_X6_refuseNoKind rfl rfl rfl (by decide +kernel) ⟨Nat.le_of_ble_eq_true rfl, Nat.le_of_ble_eq_true rfl⟩) rfl hl.1 (Nat.le_of_ble_eq_true rfl) dX6_add_8 (Nat.le_of_ble_eq_true rfl) (Nat.le_of_ble_eq_true rfl)) hS hnt hlk (fun E9 H9 h9 z9 => XA.of h9.2 (Or.inr (Or.inl ⟨h9.1.1, by rw [add_2 hlk9 h9.1.2]; rfl⟩))) (Nat.le_of_ble_eq_true rfl) (Nat.le_of_ble_eq_true rfl) (fun H2 locs2 hP hz2 hS => ?_)
  obtain ⟨eH, hk6⟩ := hP
  have eH := eH.symm
  subst eH
  obtain ⟨i, hi6, hkd⟩ := isK_of hk6
  have hl : lv_has ls 5 [(4, .ref ((ea b0 sl))), (0, .ref b0), (1, .int x), (2, .int (nI i)), (3, .int v)] := by
    have e9 : kd = (nI i) := hkd
    rw [← e9]; exact hl
  subst hkd
  refine lv_aload hx hb dX6_add_11 (lv_at hl 0 rfl) ?_
  refine lv_iload_n hx hb dX6_add_13 rfl (lv_at hl 3 rfl) ?_
  refine k_ip (k_V (As := [.int (nI i)]) (rest := []) ⟨hx, hb, hml, hown, hts⟩ hev hS (c_X1_has l (hE sl hs32).1 hi6 (iE.1 sl)) (cwV 1 hts gX6_add_X1_has rfl rfl rfl (by decide +kernel) ⟨Nat.le_of_ble_eq_true rfl, Nat.le_of_ble_eq_true rfl⟩) (x_recv hK (hE sl hs32).1 rfl) rfl hl.1 (Nat.le_of_ble_eq_true rfl) dX6_add_14 (Nat.le_of_ble_eq_true rfl) (Nat.le_of_ble_eq_true rfl)) hS hnt hlk (fun _ _ h _ => h.elim) (Nat.le_of_ble_eq_true rfl) (Nat.le_of_ble_eq_true rfl) (fun rq3_ H3 locs3 hP hz3 hS => ?_)
  refine W.widen (k := 0 + 1 + 1) (n := 0 + 6 + 6) (Nat.le_refl _) (Nat.le_refl _) ?_
  obtain ⟨eH, er3⟩ := hP
  have eH := eH.symm
  subst eH
  refine x_top (y := (bI ((bitS (mKd (sE M) sl) i)))) (er3) ?_
  refine y_bif_eq hx hb (tgt := 30) dX6_add_17 (by decide) (fun c17 => ?_) (fun c17 => ?_)
  · refine lv_aload_n hx hb dX6_add_30 rfl (lv_at hl 1 rfl) ?_
    refine k_vp (k_V (As := []) (rest := []) ⟨hx, hb, hml, hown, hts⟩ hev hS (c_X6_refuseDuringWalk l hst hX.1) (cwV 0 hts gX6_add_X6_refuseDuringWalk rfl rfl rfl (by decide +kernel) ⟨Nat.le_of_ble_eq_true rfl, Nat.le_of_ble_eq_true rfl⟩) (x_recv hK hX.1 rfl) rfl hl.1 (Nat.le_of_ble_eq_true rfl) dX6_add_31 (Nat.le_of_ble_eq_true rfl) (Nat.le_of_ble_eq_true rfl)) hS hnt hlk (fun E9 H9 h9 z9 => XA.of h9.2 (Or.inr (Or.inr ⟨h9.1.1, by rw [add_3 hlk9 hi6 hk6 (Or.inr (wo_s hwo h9.1.2))]; rfl⟩))) (Nat.le_of_ble_eq_true rfl) (Nat.le_of_ble_eq_true rfl) (fun H4 locs4 hP hz4 hS => ?_)
    obtain ⟨eH, hwn⟩ := hP
    have eH := eH.symm
    subst eH
    refine lv_aload_n hx hb dX6_add_34 rfl (lv_at hl 1 rfl) ?_
    refine lv_aload hx hb dX6_add_35 (lv_at hl 0 rfl) ?_
    refine lv_aload hx hb dX6_add_37 (lv_at hl 0 rfl) ?_
    refine x_getN (C := RX1) (TT := TX1) (N := 6) (ci := 4) (v := .int (nI ((mKd (sE M) sl)))) hx hb hts in_X6_add_RX1 hown hK ((hE sl hs32).1) rfl 5 (by decide) (hev.2.2.2.2.1.2 ("Archeloft", 82, "Archeloft$Entity", "kindSet", "I") (by decide +kernel)) (fun _ h9 => h9) rfl dX6_add_39 ?_
    refine lv_iconst (v := nI 1) hx hb dX6_add_42 (by decide) ?_
    refine lv_iload_n hx hb dX6_add_43 rfl (lv_at hl 3 rfl) ?_
    refine lv_ishl hx hb dX6_add_44 ?_
    refine lv_ior hx hb dX6_add_45 ?_
    refine x_top (y := (nI ((setB (mKd (sE M) sl) i)))) ((bit_set (mKd (sE M) sl) (iE.1 sl) i hi6).1) ?_
    refine k_vp (k_V (As := [.ref ((ea b0 sl)), .int (nI ((setB (mKd (sE M) sl) i)))]) (rest := []) ⟨hx, hb, hml, hown, hts⟩ hev hS (c_X6_moveTo l hst hC iE iR hsal (bit_set (mKd (sE M) sl) (iE.1 sl) i hi6).2) (cwV 2 hts gX6_add_X6_moveTo rfl rfl rfl (by decide +kernel) ⟨Nat.le_of_ble_eq_true rfl, Nat.le_of_ble_eq_true rfl⟩) (x_recv hK hX.1 rfl) rfl hl.1 (Nat.le_of_ble_eq_true rfl) dX6_add_46 (Nat.le_of_ble_eq_true rfl) (Nat.le_of_ble_eq_true rfl)) hS hnt hlk (fun _ _ h _ => h.elim) (Nat.le_of_ble_eq_true rfl) (Nat.le_of_ble_eq_true rfl) (fun H5 locs5 hP hz5 hS => ?_)
    obtain ⟨tg1, y1, ⟨hT1, hX1, hE1, hR1⟩, x1, f1⟩ := hP
    obtain ⟨fv, fm, hfv, hfm, hfe⟩ := hE1.vals hs32
    have he9 := (hE1 sl hs32).1
    refine lv_aload hx hb dX6_add_49 (lv_at hl 0 rfl) ?_
    refine lv_iload_n hx hb dX6_add_51 rfl (lv_at hl 3 rfl) ?_
    refine lv_iload_n hx hb dX6_add_52 rfl (lv_at hl 4 rfl) ?_
    refine lv_aload_n hx hb dX6_add_53 rfl (lv_at hl 1 rfl) ?_
    refine x_get (C := RX6) (TT := TX6) (N := 6) (ci := 9) (v := .int ((sT M))) hx hb hts in_X6_add_RX6 hown hK (hX1.1) rfl 5 (by decide) (hts (.fieldLink RX6 32 "Archeloft" "tickOfNow" "I") (by decide +kernel)) (fun _ h9 => h9) rfl dX6_add_54 ?_
    refine k_vp (k_V (As := [.int (nI i), .int v, .int ((sT M))]) (rest := []) ⟨hx, hb, hml, hown, hts⟩ hev hS (c_X1_put l he9 hfv hfm (by omega) (ea_A hT1 hs32 (i := 1) (by decide)) (ea_A hT1 hs32 (i := 2) (by decide)) (by omega) hi6 v (sT M)) (cwV 3 hts gX6_add_X1_put rfl rfl rfl (by decide +kernel) ⟨Nat.le_of_ble_eq_true rfl, Nat.le_of_ble_eq_true rfl⟩) (x_recv hK he9 rfl) rfl hl.1 (Nat.le_of_ble_eq_true rfl) dX6_add_57 (Nat.le_of_ble_eq_true rfl) (Nat.le_of_ble_eq_true rfl)) hS hnt hlk (fun _ _ h _ => h.elim) (Nat.le_of_ble_eq_true rfl) (Nat.le_of_ble_eq_true rfl) (fun H6 locs6 hP hz6 hS => ?_)
    refine W.widen (k := 0 + 1 + 1 + 1 + 4) (n := 0 + 6 + 6 + 6 + 111) (Nat.le_refl _) (Nat.le_refl _) ?_
    obtain ⟨hv3, hm3, ez3, eq3⟩ := hP
    have hE2 := hE1.put hv3 hm3 hfe eq3
    have f2 := FR.vals hT1 hs32 ez3 eq3
    have hX2 := hX1.keptF hT1 f2 (by omega) (by omega)
    have hR2 := hR1.kept TX.rf f2 (fun t (z : t = 5) => by omega)
    have hT2 := hT1.kept f2.1
    refine lv_aload hx hb dX6_add_60 (lv_at hl 0 rfl) ?_
    refine x_getN (C := RX1) (TT := TX1) (N := 6) (ci := 4) (v := .int (nI ((mKd (becomesE (sE M) sl (setB (mKd (sE M) sl) i)) sl)))) hx hb hts in_X6_add_RX1 hown hK ((hE2 sl hs32).1) rfl 5 (by decide) (hev.2.2.2.2.1.2 ("Archeloft", 82, "Archeloft$Entity", "kindSet", "I") (by decide +kernel)) (fun _ h9 => h9) rfl dX6_add_62 ?_
    exact r_i hx hb hrt9 hlk hS (Nat.le_of_ble_eq_true rfl) (Nat.le_of_ble_eq_true rfl) dX6_add_65 (by
        rw [add_0 hlk9 hi6 hk6 c17 (wo_n hwo hwn)]
        refine ⟨rfl, (by show nI (nu (mKd (sE M)) sl _ sl) = _; rw [nu_s]), tg1, y1, ⟨hT2, hX2, hE2, hR2⟩, x1, f1.tr x1 (f2.wk (fun t z => Or.inl z))⟩)
  · have hb9 : bitS (mKd (sE M) sl) i = true := c17
    exact k_thr (cls := "java/lang/IllegalStateException") (text := "the entity has that kind") (ik := 113) (is := 115) (ic := 117) hx hb hst hown hev hS (by decide +kernel) (hts (.classLink RX6 113 "java/lang/IllegalStateException") (by decide +kernel)) (hts (.initialized "java/lang/IllegalStateException") (by decide +kernel)) (by decide +kernel) (by decide +kernel) (fun w h => hts w (ta_X6_add_117 w h)) (by decide +kernel) (by decide +kernel) (hl.1.trans hml.symm) dX6_add_20 dX6_add_23 dX6_add_24 dX6_add_26 dX6_add_29 hnt (Nat.le_of_ble_eq_true rfl) (Nat.le_of_ble_eq_true rfl) (Nat.le_of_ble_eq_true rfl) (Nat.le_of_ble_eq_true rfl) hlk ((fun H1 h1 h2 => XA.of ⟨h1, h2⟩ (Or.inr (Or.inr ⟨rfl, by rw [add_3 hlk9 hi6 hk6 (Or.inl hb9)]; rfl⟩)))) (Nat.le_of_ble_eq_true rfl) (Nat.le_of_ble_eq_true rfl)
set_option maxRecDepth 100000 in
theorem in_X6_take_RX1 : ∀ w ∈ wsX10, w ∈ wsX6_take := by decide +kernel
set_option maxHeartbeats 4000000 in
set_option maxRecDepth 100000 in
theorem c_X6_take (l : Launch) {D : va_G} {T : Nat → ClassId} {dE mi : Nat} (hst : l.stackTraces = false) {A : Nat → Prop} {H : Heap} {b0 : Nat} {tg : Nat → Nat} {wo : Option Nat} {M : mSt} {y : mLy} (hC : Core D T dE b0 tg H A (sE M) (sR M) y wo (sT M)) (iE : InvE (sE M)) (iR : InvR (sE M) (sR M)) (hwo : wOn (sW M) = wo.isSome) (x kd : Int32) : vx_Met l yX6_take wsX6_take (rmL 10 8 135) (PcE D T dE mi A H [.ref b0, .int x, .int kd]) (QI A (fun r H1 => (oTake M x kd).1 = 0 ∧ r = (oTake M x kd).2.1 ∧ Nxt D T dE b0 A tg H H1 (sE (oTake M x kd).2.2) (sR (oTake M x kd).2.2) wo (sT M))) (XX A (XA H (oTake M x kd).1)) 8 135 A := by
  refine entry (cc := cX6_take) (maxL := 4) (ret := (some .int)) (by decide) rfl (Nat.le_of_ble_eq_true rfl) ?_
  intro p e s m args below meth c hx hb hrt9 hml hown hts hlk hnt hnm hev hS ls hl
  have hown : s.vm.findClass RX6 = some m.cls := hown
  have hK := hev.1
  have hl : lv_has ls 4 [(0, .ref b0), (1, .int x), (2, .int kd)] := hl
  obtain ⟨hT, hX, hE, hR⟩ := id hC
  refine lv_aload_n hx hb dX6_take_0 rfl (lv_at hl 0 rfl) ?_
  refine lv_iload_n hx hb dX6_take_1 rfl (lv_at hl 1 rfl) ?_
  refine lv_iload_n hx hb dX6_take_2 rfl (lv_at hl 2 rfl) ?_
  refine k_qp (k_V (As := [.int x, .int kd]) (rest := []) ⟨hx, hb, hml, hown, hts⟩ hev hS (c_X6_ownerOf l hst hX hE iE x kd) (cwV 2 hts gX6_take_X6_ownerOf rfl rfl rfl (by decide +kernel) ⟨Nat.le_of_ble_eq_true rfl, Nat.le_of_ble_eq_true rfl⟩) (x_recv hK hX.1 rfl) rfl hl.1 (Nat.le_of_ble_eq_true rfl) dX6_take_3 (Nat.le_of_ble_eq_true rfl) (Nat.le_of_ble_eq_true rfl)) hS hnt hlk (fun E9 H9 h9 z9 => h9.tk) (Nat.le_of_ble_eq_true rfl) (Nat.le_of_ble_eq_true rfl) (fun rq1_ H1 locs1 hP hz1 hS => ?_)
  obtain ⟨eH, sl, i, hask, hlk9, hkd, hi6, hs32, hsal, er⟩ := hP
  have eH := eH.symm
  subst eH
  refine x_tov (y := .ref ((ea b0 sl))) (by rw [er]; rfl) ?_
  have hl : lv_has ls 4 [(0, .ref b0), (1, .int x), (2, .int (nI i))] := by
    have e9 : kd = (nI i) := hkd
    rw [← e9]; exact hl
  refine lv_astore_n (lv' := [(3, .ref ((ea b0 sl))), (0, .ref b0), (1, .int x), (2, .int (nI i))]) hx hb dX6_take_6 rfl hl (by decide) rfl (fun ls hl => ?_)
  refine lv_aload_n hx hb dX6_take_7 rfl (lv_at hl 1 rfl) ?_
  refine k_vp (k_V (As := []) (rest := []) ⟨hx, hb, hml, hown, hts⟩ hev hS (c_X6_refuseDuringWalk l hst hX.1) (cwV 0 hts gX6_take_X6_refuseDuringWalk rfl rfl rfl (by decide +kernel) ⟨Nat.le_of_ble_eq_true rfl, Nat.le_of_ble_eq_true rfl⟩) (x_recv hK hX.1 rfl) rfl hl.1 (Nat.le_of_ble_eq_true rfl) dX6_take_8 (Nat.le_of_ble_eq_true rfl) (Nat.le_of_ble_eq_true rfl)) hS hnt hlk (fun E9 H9 h9 z9 => XA.of h9.2 (Or.inr (Or.inr ⟨h9.1.1, by rw [take_3 hask (wo_s hwo h9.1.2)]; rfl⟩))) (Nat.le_of_ble_eq_true rfl) (Nat.le_of_ble_eq_true rfl) (fun H2 locs2 hP hz2 hS => ?_)
  obtain ⟨eH, hwn⟩ := hP
  have eH := eH.symm
  subst eH
  refine lv_aload_n hx hb dX6_take_11 rfl (lv_at hl 1 rfl) ?_
  refine lv_aload_n hx hb dX6_take_12 rfl (lv_at hl 0 rfl) ?_
  refine lv_aload_n hx hb dX6_take_13 rfl (lv_at hl 0 rfl) ?_
  refine x_getN (C := RX1) (TT := TX1) (N := 6) (ci := 4) (v := .int (nI ((mKd (sE M) sl)))) hx hb hts in_X6_take_RX1 hown hK ((hE sl hs32).1) rfl 5 (by decide) (hev.2.2.2.2.1.2 ("Archeloft", 82, "Archeloft$Entity", "kindSet", "I") (by decide +kernel)) (fun _ h9 => h9) rfl dX6_take_14 ?_
  refine lv_iconst (v := nI 1) hx hb dX6_take_17 (by decide) ?_
  refine lv_iload_n hx hb dX6_take_18 rfl (lv_at hl 3 rfl) ?_
  refine lv_ishl hx hb dX6_take_19 ?_
  refine lv_iconst (v := -1) hx hb dX6_take_20 (by decide) ?_
  refine lv_ixor hx hb dX6_take_21 ?_
  refine lv_iand hx hb dX6_take_22 ?_
  refine x_top (y := (nI ((clrB (mKd (sE M) sl) i)))) ((bit_clr (mKd (sE M) sl) (iE.1 sl) i hi6).1) ?_
  refine k_vp (k_V (As := [.ref ((ea b0 sl)), .int (nI ((clrB (mKd (sE M) sl) i)))]) (rest := []) ⟨hx, hb, hml, hown, hts⟩ hev hS (c_X6_moveTo l hst hC iE iR hsal (bit_clr (mKd (sE M) sl) (iE.1 sl) i hi6).2) (cwV 2 hts gX6_take_X6_moveTo rfl rfl rfl (by decide +kernel) ⟨Nat.le_of_ble_eq_true rfl, Nat.le_of_ble_eq_true rfl⟩) (x_recv hK hX.1 rfl) rfl hl.1 (Nat.le_of_ble_eq_true rfl) dX6_take_23 (Nat.le_of_ble_eq_true rfl) (Nat.le_of_ble_eq_true rfl)) hS hnt hlk (fun _ _ h _ => h.elim) (Nat.le_of_ble_eq_true rfl) (Nat.le_of_ble_eq_true rfl) (fun H3 locs3 hP hz3 hS => ?_)
  obtain ⟨tg1, y1, ⟨hT1, hX1, hE1, hR1⟩, x1, f1⟩ := hP
  obtain ⟨fv, fm, hfv, hfm, hfe⟩ := hE1.vals hs32
  have he9 := (hE1 sl hs32).1
  refine lv_aload_n hx hb dX6_take_26 rfl (lv_at hl 0 rfl) ?_
  refine x_getN (C := RX1) (TT := TX1) (N := 6) (ci := 4) (v := .ref ((ea b0 sl + 1))) hx hb hts in_X6_take_RX1 hown hK (he9) rfl 0 (by decide) (hev.2.2.2.2.1.2 ("Archeloft", 132, "Archeloft$Entity", "values", "[I") (by decide +kernel)) (fun _ h9 => h9) rfl dX6_take_27 ?_
  refine lv_iload_n hx hb dX6_take_30 rfl (lv_at hl 3 rfl) ?_
  refine x_iald (i := i) hx hb hK hfv (by omega) (by decide) dX6_take_31 ?_
  exact r_i hx hb hrt9 hlk hS (Nat.le_of_ble_eq_true rfl) (Nat.le_of_ble_eq_true rfl) dX6_take_32 (by
      rw [take_0 hask (wo_n hwo hwn)]
      exact ⟨rfl, (hfe i hi6).1, tg1, y1, ⟨hT1, hX1, hE1, hR1⟩, x1, f1⟩)

theorem adopt_1 {M : mSt} {x y : Int32} (h : look (sE M) x = none) : oAdopt M x y = oErr M 1 := by unfold oAdopt; rw [h]
theorem adopt_1b {M : mSt} {x y : Int32} {sl : Nat} (h : look (sE M) x = some sl) (h2 : y ≠ -1 ∧ look (sE M) y = none) : oAdopt M x y = oErr M 1 := by unfold oAdopt; rw [h]; exact if_pos h2
theorem adopt_2 {M : mSt} {x y : Int32} {sl : Nat} (h : look (sE M) x = some sl) (h2 : ¬ (y ≠ -1 ∧ look (sE M) y = none)) (h3 : ∃ p, lookO (sE M) y = some p ∧ goesB (sE M) p sl = true) : oAdopt M x y = oErr M 2 := by unfold oAdopt; rw [h]; exact (if_neg h2).trans (if_pos h3)
theorem adopt_3 {M : mSt} {x y : Int32} {sl : Nat} (h : look (sE M) x = some sl) (h2 : ¬ (y ≠ -1 ∧ look (sE M) y = none)) (h3 : ∀ p, lookO (sE M) y = some p → goesB (sE M) p sl = false) (h4 : wOn (sW M) = true) : oAdopt M x y = oErr M 3 := by
  unfold oAdopt; rw [h]
  exact (if_neg h2).trans ((if_neg (fun ⟨p, a, b⟩ => by rw [h3 p a] at b; cases b)).trans (if_pos h4))
theorem adopt_0 {M : mSt} {x y : Int32} {sl : Nat} (h : look (sE M) x = some sl) (h2 : ¬ (y ≠ -1 ∧ look (sE M) y = none)) (h3 : ∀ p, lookO (sE M) y = some p → goesB (sE M) p sl = false) (h4 : ¬ wOn (sW M) = true) : oAdopt M x y = (0, hdlO (sE M) (mPar (sE M) sl), wE M (mAl (sE M), mHad (sE M), mKd (sE M), nu (mPar (sE M)) sl (lookO (sE M) y), mVal (sE M), mMk (sE M))) := by
  unfold oAdopt; rw [h]
  exact (if_neg h2).trans ((if_neg (fun ⟨p, a, b⟩ => by rw [h3 p a] at b; cases b)).trans (if_neg h4))
set_option maxRecDepth 100000 in
theorem in_X6_adopt_RX1 : ∀ w ∈ wsX10, w ∈ wsX6_adopt := by decide +kernel
set_option maxHeartbeats 4000000 in
set_option maxRecDepth 100000 in
theorem c_X6_adopt (l : Launch) {D : va_G} {T : Nat → ClassId} {dE mi : Nat} (hst : l.stackTraces = false) {A : Nat → Prop} {H : Heap} {b0 : Nat} {tg : Nat → Nat} {wo : Option Nat} {M : mSt} {y : mLy} (hC : Core D T dE b0 tg H A (sE M) (sR M) y wo (sT M)) (iE : InvE (sE M)) (iR : InvR (sE M) (sR M)) (hwo : wOn (sW M) = wo.isSome) (x x2 : Int32) : vx_Met l yX6_adopt wsX6_adopt (rmL 7 4 24) (PcE D T dE mi A H [.ref b0, .int x, .int x2]) (QI A (fun r H1 => (oAdopt M x x2).1 = 0 ∧ r = (oAdopt M x x2).2.1 ∧ Nxt D T dE b0 A tg H H1 (sE (oAdopt M x x2).2.2) (sR (oAdopt M x x2).2.2) wo (sT M))) (XX A (XA H (oAdopt M x x2).1)) 4 24 A := by
  refine entry (cc := cX6_adopt) (maxL := 6) (ret := (some .int)) (by decide) rfl (Nat.le_of_ble_eq_true rfl) ?_
  intro p e s m args below meth c hx hb hrt9 hml hown hts hlk hnt hnm hev hS ls hl
  have hown : s.vm.findClass RX6 = some m.cls := hown
  have hK := hev.1
  have hl : lv_has ls 6 [(0, .ref b0), (1, .int x), (2, .int x2)] := hl
  obtain ⟨hT, hX, hE, hR⟩ := id hC
  refine lv_aload_n hx hb dX6_adopt_0 rfl (lv_at hl 0 rfl) ?_
  refine lv_iload_n hx hb dX6_adopt_1 rfl (lv_at hl 1 rfl) ?_
  refine k_qp (k_V (As := [.int x]) (rest := []) ⟨hx, hb, hml, hown, hts⟩ hev hS (c_X6_entityOf l hst hX hE x) (cwV 1 hts gX6_adopt_X6_entityOf rfl rfl rfl (by decide +kernel) ⟨Nat.le_of_ble_eq_true rfl, Nat.le_of_ble_eq_true rfl⟩) (x_recv hK hX.1 rfl) rfl hl.1 (Nat.le_of_ble_eq_true rfl) dX6_adopt_2 (Nat.le_of_ble_eq_true rfl) (Nat.le_of_ble_eq_true rfl)) hS hnt hlk (fun E9 H9 h9 z9 => XA.of h9.2 (Or.inl ⟨h9.1.1, by rw [adopt_1 h9.1.2]; rfl⟩)) (Nat.le_of_ble_eq_true rfl) (Nat.le_of_ble_eq_true rfl) (fun rq1_ H1 locs1 hP hz1 hS => ?_)
  obtain ⟨eH, sl, hlk9, er⟩ := hP
  have eH := eH.symm
  subst eH
  refine x_tov (y := .ref ((ea b0 sl))) (by rw [er]; rfl) ?_
  obtain ⟨hs32, hsal, -⟩ := look_some hlk9
  refine lv_astore_n (lv' := [(3, .ref ((ea b0 sl))), (0, .ref b0), (1, .int x), (2, .int x2)]) hx hb dX6_adopt_5 rfl hl (by decide) rfl (fun ls hl => ?_)
  refine lv_iload_n hx hb dX6_adopt_6 rfl (lv_at hl 3 rfl) ?_
  refine lv_iconst (v := -1) hx hb dX6_adopt_7 (by decide) ?_
  refine lv_icmp_ne (tgt := 15) hx hb dX6_adopt_8 (by decide) (fun c8 => ?_) (fun c8 => ?_)
  · refine lv_aload_n hx hb dX6_adopt_15 rfl (lv_at hl 1 rfl) ?_
    refine lv_iload_n hx hb dX6_adopt_16 rfl (lv_at hl 3 rfl) ?_
    refine k_qp (k_V (As := [.int x2]) (rest := []) ⟨hx, hb, hml, hown, hts⟩ hev hS (c_X6_entityOf l hst hX hE x2) (cwV 1 hts gX6_adopt_X6_entityOf rfl rfl rfl (by decide +kernel) ⟨Nat.le_of_ble_eq_true rfl, Nat.le_of_ble_eq_true rfl⟩) (x_recv hK hX.1 rfl) rfl hl.1 (Nat.le_of_ble_eq_true rfl) dX6_adopt_17 (Nat.le_of_ble_eq_true rfl) (Nat.le_of_ble_eq_true rfl)) hS hnt hlk (fun E9 H9 h9 z9 => XA.of h9.2 (Or.inl ⟨h9.1.1, by rw [adopt_1b hlk9 ⟨c8, h9.1.2⟩]; rfl⟩)) (Nat.le_of_ble_eq_true rfl) (Nat.le_of_ble_eq_true rfl) (fun rq2_ H2 locs2 hP hz2 hS => ?_)
    obtain ⟨eH, pl, hlk2, er2⟩ := hP
    have eH := eH.symm
    subst eH
    refine x_tov (y := .ref ((ea b0 pl))) (by rw [er2]; rfl) ?_
    obtain ⟨hp32, hpal, -⟩ := look_some hlk2
    obtain ⟨o9, ho9⟩ : ∃ o9 : Option Nat, o9 = some pl := ⟨_, rfl⟩
    refine x_tov (y := va_rf ((o9.map (ea b0)))) (by rw [ho9]; rfl) ?_
    have hlo : lookO (sE M) x2 = o9 := by rw [ho9]; exact (if_neg c8).trans hlk2
    have hnb : ¬ (x2 ≠ -1 ∧ look (sE M) x2 = none) := fun z => by rw [hlk2] at z; cases z.2
    have hop : ∀ q, o9 = some q → mAl (sE M) q = true := fun q hq => by rw [ho9] at hq; obtain rfl := Option.some.inj hq; exact hpal
    refine y_astore (lv' := [(4, va_rf ((o9.map (ea b0)))), (3, .ref ((ea b0 sl))), (0, .ref b0), (1, .int x), (2, .int x2)]) hx hb dX6_adopt_20 hl (by decide) (by first | rfl | (cases o9 <;> rfl) | (cases (mPar (sE M) sl) <;> rfl)) (fun ls hl => ?_)
    refine lv_aload_n hx hb dX6_adopt_22 rfl (lv_at hl 1 rfl) ?_
    refine y_aload hx hb dX6_adopt_23 (lv_at hl 0 rfl) ?_
    refine k_vp (k_S (As := [.ref ((ea b0 sl)), va_rf ((o9.map (ea b0)))]) (rest := []) ⟨hx, hb, hml, hown, hts⟩ hev hS (c_X6_refuseCircle l hst hE iE hs32 hop) (va_cwS 2 hts gX6_adopt_X6_refuseCircle rfl rfl rfl (by decide +kernel) ⟨Nat.le_of_ble_eq_true rfl, Nat.le_of_ble_eq_true rfl⟩) rfl hl.1 (Nat.le_of_ble_eq_true rfl) dX6_adopt_25 (Nat.le_of_ble_eq_true rfl) (Nat.le_of_ble_eq_true rfl)) hS hnt hlk (fun E9 H9 h9 z9 => XA.of h9.2 (Or.inr (Or.inl ⟨h9.1.1, by obtain ⟨q, a1, a2⟩ := h9.1.2; rw [adopt_2 hlk9 hnb ⟨q, hlo.trans a1, a2⟩]; rfl⟩))) (Nat.le_of_ble_eq_true rfl) (Nat.le_of_ble_eq_true rfl) (fun H3 locs3 hP hz3 hS => ?_)
    obtain ⟨eH, hgo⟩ := hP
    have eH := eH.symm
    subst eH
    have hg9 : ∀ p, lookO (sE M) x2 = some p → goesB (sE M) p sl = false := fun p hp => hgo p (hlo.symm.trans hp)
    refine lv_aload_n hx hb dX6_adopt_28 rfl (lv_at hl 2 rfl) ?_
    refine k_vp (k_V (As := []) (rest := []) ⟨hx, hb, hml, hown, hts⟩ hev hS (c_X6_refuseDuringWalk l hst hX.1) (cwV 0 hts gX6_adopt_X6_refuseDuringWalk rfl rfl rfl (by decide +kernel) ⟨Nat.le_of_ble_eq_true rfl, Nat.le_of_ble_eq_true rfl⟩) (x_recv hK hX.1 rfl) rfl hl.1 (Nat.le_of_ble_eq_true rfl) dX6_adopt_29 (Nat.le_of_ble_eq_true rfl) (Nat.le_of_ble_eq_true rfl)) hS hnt hlk (fun E9 H9 h9 z9 => XA.of h9.2 (Or.inr (Or.inr ⟨h9.1.1, by rw [adopt_3 hlk9 hnb hg9 (wo_s hwo h9.1.2)]; rfl⟩))) (Nat.le_of_ble_eq_true rfl) (Nat.le_of_ble_eq_true rfl) (fun H4 locs4 hP hz4 hS => ?_)
    obtain ⟨eH, hwn⟩ := hP
    have eH := eH.symm
    subst eH
    refine lv_aload_n hx hb dX6_adopt_32 rfl (lv_at hl 1 rfl) ?_
    refine x_getN (C := RX1) (TT := TX1) (N := 6) (ci := 4) (v := va_rf (((mPar (sE M) sl).map (ea b0)))) hx hb hts in_X6_adopt_RX1 hown hK ((hE sl hs32).1) rfl 4 (by decide) (hev.2.2.2.2.1.2 ("Archeloft", 96, "Archeloft$Entity", "parent", "LArcheloft$Entity;") (by decide +kernel)) (fun _ h9 => h9) rfl dX6_adopt_33 ?_
    refine y_astore (lv' := [(5, va_rf (((mPar (sE M) sl).map (ea b0)))), (4, va_rf ((o9.map (ea b0)))), (3, .ref ((ea b0 sl))), (0, .ref b0), (1, .int x), (2, .int x2)]) hx hb dX6_adopt_36 hl (by decide) (by first | rfl | (cases o9 <;> rfl) | (cases (mPar (sE M) sl) <;> rfl)) (fun ls hl => ?_)
    refine lv_aload_n hx hb dX6_adopt_38 rfl (lv_at hl 2 rfl) ?_
    refine y_aload hx hb dX6_adopt_39 (lv_at hl 1 rfl) ?_
    refine x_putN (C := RX1) (TT := TX1) (N := 6) (ci := 4) (v := va_rf ((o9.map (ea b0)))) (ty := tyX1 4) hx hb hts in_X6_adopt_RX1 tyX1 tyX1_ok nmX1 hown hK hS ((hE sl hs32).1) (ea_A hT hs32 (i := 0) (by decide)) rfl 4 (by decide) (hev.2.2.2.2.1.2 ("Archeloft", 96, "Archeloft$Entity", "parent", "LArcheloft$Entity;") (by decide +kernel)) (fun _ h9 => h9) rfl (tyX1_ok 4 (by decide)) (by first | rfl | (cases ((o9.map (ea b0))) <;> rfl)) (by first | rfl | (cases ((o9.map (ea b0))) <;> rfl)) (Nat.le_of_ble_eq_true rfl) dX6_adopt_41 (fun H5 locs5 ho5 hz5 hq5 hS => ?_)
    have ho5 : oc D H5 (ea b0 sl) 4 [.ref (((ea b0 sl) + 1)), .ref (((ea b0 sl) + 2)), .int ((handle (sE M) sl)), .int (bI ((mAl (sE M) sl))), va_rf ((o9.map (ea b0))), .int (nI ((mKd (sE M) sl)))] := ho5
    have hE2 : PE D T b0 H5 (mAl (sE M), mHad (sE M), mKd (sE M), nu (mPar (sE M)) sl o9, mVal (sE M), mMk (sE M)) := hE.st hs32 (by rw [show mPar (mAl (sE M), mHad (sE M), mKd (sE M), nu (mPar (sE M)) sl o9, mVal (sE M), mMk (sE M)) sl = o9 from nu_s]; exact ho5) rfl rfl (fun k hk => ⟨rfl, rfl, nu_n hk, rfl⟩) hq5
    have f2 := FR.ent hT hs32 hz5 hq5
    have hX2 := hX.keptF hT f2 (by omega) (by omega)
    have hR2 := hR.kept TX.rf f2 (fun t (z : t = 5) => by omega)
    have hT2 := hT.kept f2.1
    refine y_aload hx hb dX6_adopt_44 (lv_at hl 0 rfl) ?_
    refine y_ifnonnull hx hb (tgt := 53) dX6_adopt_46 (by decide) (fun a46 c46 => ?_) (fun c46 => ?_)
    · refine y_aload hx hb dX6_adopt_53 (lv_at hl 0 rfl) ?_
      obtain ⟨k9, hk9, hy9⟩ := omap_some c46
      have hk32 := iE.2.1 k9 (iE.2.2.2.1 sl k9 hk9)
      refine x_tov (y := .ref ((ea b0 k9))) (by rw [hk9]; rfl) ?_
      refine x_getN (C := RX1) (TT := TX1) (N := 6) (ci := 4) (v := .int ((handle (mAl (sE M), mHad (sE M), mKd (sE M), nu (mPar (sE M)) sl o9, mVal (sE M), mMk (sE M)) k9))) hx hb hts in_X6_adopt_RX1 hown hK ((hE2 k9 hk32).1) rfl 2 (by decide) (hev.2.2.2.2.1.2 ("Archeloft", 63, "Archeloft$Entity", "handle", "I") (by decide +kernel)) (fun _ h9 => h9) rfl dX6_adopt_55 ?_
      exact r_i hx hb hrt9 hlk hS (Nat.le_of_ble_eq_true rfl) (Nat.le_of_ble_eq_true rfl) dX6_adopt_58 (by
          rw [adopt_0 hlk9 hnb hg9 (wo_n hwo hwn), hlo]
          refine ⟨rfl, ?_, tg, y, ⟨hT2, hX2, hE2, hR2⟩, TX.rf, f2.wk (fun t z => Or.inl z)⟩
          show _ = hdlO (sE M) (mPar (sE M) sl)
          rw [hk9]; rfl)
    · refine lv_iconst (v := -1) hx hb dX6_adopt_49 (by decide) ?_
      refine lv_goto (tgt := 58) hx hb dX6_adopt_50 (by decide) ?_
      exact r_i hx hb hrt9 hlk hS (Nat.le_of_ble_eq_true rfl) (Nat.le_of_ble_eq_true rfl) dX6_adopt_58 (by
          rw [adopt_0 hlk9 hnb hg9 (wo_n hwo hwn), hlo]
          refine ⟨rfl, ?_, tg, y, ⟨hT2, hX2, hE2, hR2⟩, TX.rf, f2.wk (fun t z => Or.inl z)⟩
          show _ = hdlO (sE M) (mPar (sE M) sl)
          rw [omap_none c46]; rfl)
  · refine lv_null hx hb dX6_adopt_11 ?_
    refine lv_goto (tgt := 20) hx hb dX6_adopt_12 (by decide) ?_
    obtain ⟨o9, ho9⟩ : ∃ o9 : Option Nat, o9 = none := ⟨_, rfl⟩
    refine x_tov (y := va_rf ((o9.map (ea b0)))) (by rw [ho9]; rfl) ?_
    have hlo : lookO (sE M) x2 = o9 := by rw [ho9]; exact if_pos c8
    have hnb : ¬ (x2 ≠ -1 ∧ look (sE M) x2 = none) := fun z => z.1 c8
    have hop : ∀ q, o9 = some q → mAl (sE M) q = true := fun q hq => by rw [ho9] at hq; cases hq
    refine y_astore (lv' := [(4, va_rf ((o9.map (ea b0)))), (3, .ref ((ea b0 sl))), (0, .ref b0), (1, .int x), (2, .int x2)]) hx hb dX6_adopt_20 hl (by decide) (by first | rfl | (cases o9 <;> rfl) | (cases (mPar (sE M) sl) <;> rfl)) (fun ls hl => ?_)
    refine lv_aload_n hx hb dX6_adopt_22 rfl (lv_at hl 1 rfl) ?_
    refine y_aload hx hb dX6_adopt_23 (lv_at hl 0 rfl) ?_
    refine k_vp (k_S (As := [.ref ((ea b0 sl)), va_rf ((o9.map (ea b0)))]) (rest := []) ⟨hx, hb, hml, hown, hts⟩ hev hS (c_X6_refuseCircle l hst hE iE hs32 hop) (va_cwS 2 hts gX6_adopt_X6_refuseCircle rfl rfl rfl (by decide +kernel) ⟨Nat.le_of_ble_eq_true rfl, Nat.le_of_ble_eq_true rfl⟩) rfl hl.1 (Nat.le_of_ble_eq_true rfl) dX6_adopt_25 (Nat.le_of_ble_eq_true rfl) (Nat.le_of_ble_eq_true rfl)) hS hnt hlk (fun E9 H9 h9 z9 => XA.of h9.2 (Or.inr (Or.inl ⟨h9.1.1, by obtain ⟨q, a1, a2⟩ := h9.1.2; rw [adopt_2 hlk9 hnb ⟨q, hlo.trans a1, a2⟩]; rfl⟩))) (Nat.le_of_ble_eq_true rfl) (Nat.le_of_ble_eq_true rfl) (fun H6 locs6 hP hz6 hS => ?_)
    obtain ⟨eH, hgo⟩ := hP
    have eH := eH.symm
    subst eH
    have hg9 : ∀ p, lookO (sE M) x2 = some p → goesB (sE M) p sl = false := fun p hp => hgo p (hlo.symm.trans hp)
    refine lv_aload_n hx hb dX6_adopt_28 rfl (lv_at hl 2 rfl) ?_
    refine k_vp (k_V (As := []) (rest := []) ⟨hx, hb, hml, hown, hts⟩ hev hS (c_X6_refuseDuringWalk l hst hX.1) (cwV 0 hts gX6_adopt_X6_refuseDuringWalk rfl rfl rfl (by decide +kernel) ⟨Nat.le_of_ble_eq_true rfl, Nat.le_of_ble_eq_true rfl⟩) (x_recv hK hX.1 rfl) rfl hl.1 (Nat.le_of_ble_eq_true rfl) dX6_adopt_29 (Nat.le_of_ble_eq_true rfl) (Nat.le_of_ble_eq_true rfl)) hS hnt hlk (fun E9 H9 h9 z9 => XA.of h9.2 (Or.inr (Or.inr ⟨h9.1.1, by rw [adopt_3 hlk9 hnb hg9 (wo_s hwo h9.1.2)]; rfl⟩))) (Nat.le_of_ble_eq_true rfl) (Nat.le_of_ble_eq_true rfl) (fun H7 locs7 hP hz7 hS => ?_)
    obtain ⟨eH, hwn⟩ := hP
    have eH := eH.symm
    subst eH
    refine lv_aload_n hx hb dX6_adopt_32 rfl (lv_at hl 1 rfl) ?_
    refine x_getN (C := RX1) (TT := TX1) (N := 6) (ci := 4) (v := va_rf (((mPar (sE M) sl).map (ea b0)))) hx hb hts in_X6_adopt_RX1 hown hK ((hE sl hs32).1) rfl 4 (by decide) (hev.2.2.2.2.1.2 ("Archeloft", 96, "Archeloft$Entity", "parent", "LArcheloft$Entity;") (by decide +kernel)) (fun _ h9 => h9) rfl dX6_adopt_33 ?_
    refine y_astore (lv' := [(5, va_rf (((mPar (sE M) sl).map (ea b0)))), (4, va_rf ((o9.map (ea b0)))), (3, .ref ((ea b0 sl))), (0, .ref b0), (1, .int x), (2, .int x2)]) hx hb dX6_adopt_36 hl (by decide) (by first | rfl | (cases o9 <;> rfl) | (cases (mPar (sE M) sl) <;> rfl)) (fun ls hl => ?_)
    refine lv_aload_n hx hb dX6_adopt_38 rfl (lv_at hl 2 rfl) ?_
    refine y_aload hx hb dX6_adopt_39 (lv_at hl 1 rfl) ?_
    refine x_putN (C := RX1) (TT := TX1) (N := 6) (ci := 4) (v := va_rf ((o9.map (ea b0)))) (ty := tyX1 4) hx hb hts in_X6_adopt_RX1 tyX1 tyX1_ok nmX1 hown hK hS ((hE sl hs32).1) (ea_A hT hs32 (i := 0) (by decide)) rfl 4 (by decide) (hev.2.2.2.2.1.2 ("Archeloft", 96, "Archeloft$Entity", "parent", "LArcheloft$Entity;") (by decide +kernel)) (fun _ h9 => h9) rfl (tyX1_ok 4 (by decide)) (by first | rfl | (cases ((o9.map (ea b0))) <;> rfl)) (by first | rfl | (cases ((o9.map (ea b0))) <;> rfl)) (Nat.le_of_ble_eq_true rfl) dX6_adopt_41 (fun H8 locs8 ho8 hz8 hq8 hS => ?_)
    have ho8 : oc D H8 (ea b0 sl) 4 [.ref (((ea b0 sl) + 1)), .ref (((ea b0 sl) + 2)), .int ((handle (sE M) sl)), .int (bI ((mAl (sE M) sl))), va_rf ((o9.map (ea b0))), .int (nI ((mKd (sE M) sl)))] := ho8
    have hE2 : PE D T b0 H8 (mAl (sE M), mHad (sE M), mKd (sE M), nu (mPar (sE M)) sl o9, mVal (sE M), mMk (sE M)) := hE.st hs32 (by rw [show mPar (mAl (sE M), mHad (sE M), mKd (sE M), nu (mPar (sE M)) sl o9, mVal (sE M), mMk (sE M)) sl = o9 from nu_s]; exact ho8) rfl rfl (fun k hk => ⟨rfl, rfl, nu_n hk, rfl⟩) hq8
    have f2 := FR.ent hT hs32 hz8 hq8
    have hX2 := hX.keptF hT f2 (by omega) (by omega)
    have hR2 := hR.kept TX.rf f2 (fun t (z : t = 5) => by omega)
    have hT2 := hT.kept f2.1
    refine y_aload hx hb dX6_adopt_44 (lv_at hl 0 rfl) ?_
    refine y_ifnonnull hx hb (tgt := 53) dX6_adopt_46 (by decide) (fun a46 c46 => ?_) (fun c46 => ?_)
    · refine y_aload hx hb dX6_adopt_53 (lv_at hl 0 rfl) ?_
      obtain ⟨k9, hk9, hy9⟩ := omap_some c46
      have hk32 := iE.2.1 k9 (iE.2.2.2.1 sl k9 hk9)
      refine x_tov (y := .ref ((ea b0 k9))) (by rw [hk9]; rfl) ?_
      refine x_getN (C := RX1) (TT := TX1) (N := 6) (ci := 4) (v := .int ((handle (mAl (sE M), mHad (sE M), mKd (sE M), nu (mPar (sE M)) sl o9, mVal (sE M), mMk (sE M)) k9))) hx hb hts in_X6_adopt_RX1 hown hK ((hE2 k9 hk32).1) rfl 2 (by decide) (hev.2.2.2.2.1.2 ("Archeloft", 63, "Archeloft$Entity", "handle", "I") (by decide +kernel)) (fun _ h9 => h9) rfl dX6_adopt_55 ?_
      exact r_i hx hb hrt9 hlk hS (Nat.le_of_ble_eq_true rfl) (Nat.le_of_ble_eq_true rfl) dX6_adopt_58 (by
          rw [adopt_0 hlk9 hnb hg9 (wo_n hwo hwn), hlo]
          refine ⟨rfl, ?_, tg, y, ⟨hT2, hX2, hE2, hR2⟩, TX.rf, f2.wk (fun t z => Or.inl z)⟩
          show _ = hdlO (sE M) (mPar (sE M) sl)
          rw [hk9]; rfl)
    · refine lv_iconst (v := -1) hx hb dX6_adopt_49 (by decide) ?_
      refine lv_goto (tgt := 58) hx hb dX6_adopt_50 (by decide) ?_
      exact r_i hx hb hrt9 hlk hS (Nat.le_of_ble_eq_true rfl) (Nat.le_of_ble_eq_true rfl) dX6_adopt_58 (by
          rw [adopt_0 hlk9 hnb hg9 (wo_n hwo hwn), hlo]
          refine ⟨rfl, ?_, tg, y, ⟨hT2, hX2, hE2, hR2⟩, TX.rf, f2.wk (fun t z => Or.inl z)⟩
          show _ = hdlO (sE M) (mPar (sE M) sl)
          rw [omap_none c46]; rfl)

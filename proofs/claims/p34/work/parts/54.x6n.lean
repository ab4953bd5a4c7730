theorem makes_at {D : va_G} {T : Nat → ClassId} {b0 sl : Nat} {H H1 : Heap} {E : mE} (hE : PE D T b0 H E) (iE : InvE E) (hd : mAl E sl = false) (hs32 : sl < 32) (ho : oc D H1 (ea b0 sl) 4 [.ref (ea b0 sl + 1), .ref (ea b0 sl + 2), .int (handle E sl), .int (nI 1), va_rf ((mPar E sl).map (ea b0)), .int (nI (mKd E sl))]) (e : ∀ q : Nat, q ≠ ea b0 sl → H1[q]? = H[q]?) : PE D T b0 H1 (makesE E sl) := by
  obtain ⟨k0, p0⟩ := iE.2.2.1 sl hd
  have a1 : mAl (makesE E sl) sl = true := nu_s
  have a2 : mKd (makesE E sl) sl = 0 := nu_s
  have a3 : mPar (makesE E sl) sl = none := nu_s
  refine hE.st hs32 ?_ rfl rfl (fun k hk => ⟨nu_n hk, rfl, nu_n hk, nu_n hk⟩) e
  rw [k0, p0] at ho
  rw [a1, a2, a3]
  exact ho
theorem free_al {E : mE} (h : free E < 32) : mAl E (free E) = false := by
  obtain ⟨i, h1, h2, h3, h4⟩ := free_ex E
  rw [h1] at h ⊢
  rcases h4 with h4 | h4
  · omega
  · exact h4
theorem wo_n {M : mSt} {wo : Option Nat} (hwo : wOn (sW M) = wo.isSome) (h : wo = none) : ¬ wOn (sW M) = true := by rw [hwo, h]; decide
theorem wo_s {M : mSt} {wo : Option Nat} (hwo : wOn (sW M) = wo.isSome) (h : wo ≠ none) : wOn (sW M) = true := by
  rw [hwo]
  cases wo with
  | none => exact absurd rfl h
  | some q => rfl
set_option maxRecDepth 100000 in
theorem in_X6_make_RX1 : ∀ w ∈ wsX10, w ∈ wsX6_make := by decide +kernel
set_option maxRecDepth 100000 in
theorem in_X6_make_RX3 : ∀ w ∈ wsX30, w ∈ wsX6_make := by decide +kernel
set_option maxHeartbeats 4000000 in
set_option maxRecDepth 100000 in
theorem c_X6_make (l : Launch) {D : va_G} {T : Nat → ClassId} {dE mi : Nat} (hst : l.stackTraces = false) {A : Nat → Prop} {H : Heap} {b0 : Nat} {tg : Nat → Nat} {wo : Option Nat} {M : mSt} {y : mLy} (hC : Core D T dE b0 tg H A (sE M) (sR M) y wo (sT M)) (iE : InvE (sE M)) (iR : InvR (sE M) (sR M)) (hwo : wOn (sW M) = wo.isSome) : vx_Met l yX6_make wsX6_make (rmL 9 6 123) (PcE D T dE mi A H [.ref b0]) (QI A (fun r H1 => (oMake M).1 = 0 ∧ r = (oMake M).2.1 ∧ Nxt D T dE b0 A tg H H1 (sE (oMake M).2.2) (sR (oMake M).2.2) wo (sT M))) (XX A (XE H (fun E9 => E9 = "java/lang/IllegalStateException" ∧ (oMake M).1 = 1))) 6 123 A := by
  refine entry (cc := cX6_make) (maxL := 2) (ret := (some .int)) (by decide) rfl (Nat.le_of_ble_eq_true rfl) ?_
  intro p e s m args below meth c hx hb hrt9 hml hown hts hlk hnt hnm hev hS ls hl
  have hown : s.vm.findClass RX6 = some m.cls := hown
  have hK := hev.1
  have hl : lv_has ls 2 [(0, .ref b0)] := hl
  obtain ⟨hT, hX, hE, hR⟩ := id hC
  have ok := iR.ok iE
  obtain ⟨sl, hsl⟩ : ∃ sl, free (sE M) = sl := ⟨_, rfl⟩
  have hdr := @dRC_le (sR M) 0
  have hdr2 := @dRS_le (sR M) 0
  obtain ⟨ok3, e2, -, -, -, -, -⟩ := ens_row ok (d := 0) (by decide)
  refine lv_aload_n hx hb dX6_make_0 rfl (lv_at hl 0 rfl) ?_
  refine k_vp (k_V (As := []) (rest := []) ⟨hx, hb, hml, hown, hts⟩ hev hS (c_X6_refuseDuringWalk l hst hX.1) (cwV 0 hts gX6_make_X6_refuseDuringWalk rfl rfl rfl (by decide +kernel) ⟨Nat.le_of_ble_eq_true rfl, Nat.le_of_ble_eq_true rfl⟩) (x_recv hK hX.1 rfl) rfl hl.1 (Nat.le_of_ble_eq_true rfl) dX6_make_1 (Nat.le_of_ble_eq_true rfl) (Nat.le_of_ble_eq_true rfl)) hS hnt hlk (fun E9 H9 h9 z9 => ⟨⟨h9.1.1, by rw [show oMake M = oErr M 1 from if_pos (Or.inr (wo_s hwo h9.1.2))]; rfl⟩, h9.2⟩) (Nat.le_of_ble_eq_true rfl) (Nat.le_of_ble_eq_true rfl) (fun H1 locs1 hP hz1 hS => ?_)
  obtain ⟨eH, hwn⟩ := hP
  have eH := eH.symm
  subst eH
  refine lv_aload_n hx hb dX6_make_4 rfl (lv_at hl 0 rfl) ?_
  refine k_qp (k_V (As := []) (rest := []) ⟨hx, hb, hml, hown, hts⟩ hev hS (c_X6_lowestFree l hst hX hE) (cwV 0 hts gX6_make_X6_lowestFree rfl rfl rfl (by decide +kernel) ⟨Nat.le_of_ble_eq_true rfl, Nat.le_of_ble_eq_true rfl⟩) (x_recv hK hX.1 rfl) rfl hl.1 (Nat.le_of_ble_eq_true rfl) dX6_make_5 (Nat.le_of_ble_eq_true rfl) (Nat.le_of_ble_eq_true rfl)) hS hnt hlk (fun E9 H9 h9 z9 => ⟨⟨h9.1.1, by rw [show oMake M = oErr M 1 from if_pos (Or.inl h9.1.2)]; rfl⟩, h9.2⟩) (Nat.le_of_ble_eq_true rfl) (Nat.le_of_ble_eq_true rfl) (fun rq2_ H2 locs2 hP hz2 hS => ?_)
  obtain ⟨eH, hs32, er⟩ := hP
  have eH := eH.symm
  subst eH
  have hdead := free_al hs32
  rw [hsl] at hs32 hdead er
  refine x_tov (y := .ref ((ea b0 sl))) (by rw [er]; rfl) ?_
  have hno1 : ∀ r j, r < rN (sR M) → j < rZ (sR M) r → rM (sR M) r j ≠ sl := fun r j hr hj z => by have h7 := (iR.2.2.1 r j hr hj).1; rw [z, hdead] at h7; cases h7
  have hzl := ok3.zlt e2 hs32 (ens_no ok (by decide) hno1)
  refine lv_astore_n (lv' := [(1, .ref ((ea b0 sl))), (0, .ref b0)]) hx hb dX6_make_8 rfl hl (by decide) rfl (fun ls hl => ?_)
  refine lv_aload_n hx hb dX6_make_9 rfl (lv_at hl 0 rfl) ?_
  refine lv_iconst (v := nI 1) hx hb dX6_make_10 (by decide) ?_
  refine x_putN (C := RX1) (TT := TX1) (N := 6) (ci := 4) (v := .int (nI 1)) (ty := tyX1 3) hx hb hts in_X6_make_RX1 tyX1 tyX1_ok nmX1 hown hK hS ((hE sl hs32).1) (ea_A hT hs32 (i := 0) (by decide)) rfl 3 (by decide) (hev.2.2.2.2.1.2 ("Archeloft", 46, "Archeloft$Entity", "there", "Z") (by decide +kernel)) (fun _ h9 => h9) rfl (tyX1_ok 3 (by decide)) rfl rfl (Nat.le_of_ble_eq_true rfl) dX6_make_11 (fun H3 locs3 ho3 hz3 hq3 hS => ?_)
  have ho3 : oc D H3 (ea b0 sl) 4 [.ref (((ea b0 sl) + 1)), .ref (((ea b0 sl) + 2)), .int ((handle (sE M) sl)), .int (nI 1), va_rf (((mPar (sE M) sl).map (ea b0))), .int (nI ((mKd (sE M) sl)))] := ho3
  have hE2 := makes_at hE iE hdead hs32 ho3 hq3
  have f2 := FR.ent hT hs32 hz3 hq3
  have hX2 := hX.keptF hT f2 (by omega) (by omega)
  have hR2 := hR.kept TX.rf f2 (fun t (z : t = 5) => by omega)
  have hT2 := hT.kept f2.1
  refine lv_aload_n hx hb dX6_make_14 rfl (lv_at hl 1 rfl) ?_
  refine lv_iconst (v := nI 0) hx hb dX6_make_15 (by decide) ?_
  refine k_qp (k_V (As := [.int (nI 0)]) (rest := []) ⟨hx, hb, hml, hown, hts⟩ hev hS (c_rowOf l hst hX2 hR2 ok.1 (d := 0) (by decide) hT2 (fun z => ok.new (by decide) z)) (cwV 1 hts gX6_make_X6_rowOf rfl rfl rfl (by decide +kernel) ⟨Nat.le_of_ble_eq_true rfl, Nat.le_of_ble_eq_true rfl⟩) (x_recv hK hX2.1 rfl) rfl hl.1 (Nat.le_of_ble_eq_true rfl) dX6_make_16 (by show _ ≤ (6 : Nat); omega) (by show _ ≤ (123 : Nat); omega)) hS hnt hlk (fun _ _ h _ => h.elim) (by show _ ≤ (6 : Nat); omega) (by show _ ≤ (123 : Nat); omega) (fun rq4_ H4 locs4 hP hz4 hS => ?_)
  obtain ⟨tg1, y1, hT3, x3, hR3, er3, f3⟩ := hP
  refine x_tov (y := .ref ((yW y1 (row (sR M) 0)))) (by rw [er3]; rfl) ?_
  have hX3 := hX2.keptF hT2 f3 (by omega) (by omega)
  have hE3 := hE2.keptF hT2 f3 (by omega)
  obtain ⟨n4, n5, n6⟩ := hR3.2 (row (sR M) 0) e2
  have hds := dS_le32 n6.2.1 n6.1.2.1 hzl
  have hdc := @dC_le (yK y1 (row (sR M) 0)) (rZ (rowEns (sR M) 0) (row (sR M) 0))
  refine x_getN (C := RX3) (TT := TX3) (N := 2) (ci := 6) (v := .ref ((yL y1 (row (sR M) 0)))) hx hb hts in_X6_make_RX3 hown hK (n4) rfl 1 (by decide) (hev.2.2.2.2.1.2 ("Archeloft", 54, "Archeloft$Row", "members", "Ljava/util/ArrayList;") (by decide +kernel)) (fun _ h9 => h9) rfl dX6_make_19 ?_
  refine lv_aload_n hx hb dX6_make_22 rfl (lv_at hl 0 rfl) ?_
  refine k_ip (k_V (As := [.ref ((ea b0 sl))]) (rest := []) ⟨hx, hb, hml, hown, hts⟩ hev hS (c_addL l n6.1 n6.2.1.lt (n6.aa hT3 (by omega)) (n6.aA hT3) hT3.2.1 (ci := 4) (rr := (RX1, TX1, 6)) (fun x hx2 => ⟨fun z => by have h7 := ea_tg hT3 (ok3.2.2.1 _ x e2 hx2); have h8 : tg1 (ea b0 (rM (rowEns (sR M) 0) (row (sR M) 0) x)) = 1100 + 2 * (row (sR M) 0) := (congrArg tg1 z).trans n6.2.2.1; omega, _, (hE3 _ (ok3.2.2.1 _ x e2 hx2)).1⟩) rfl (by decide +kernel) (hE3 sl hs32).1 (fun z => by have h7 := ea_tg hT3 hs32; have h8 : tg1 (ea b0 sl) = 1100 + 2 * (row (sR M) 0) := (congrArg tg1 z).trans n6.2.2.1; omega)) (cwV 1 hts gX6_make_Jx4a65c_add_9ea2d rfl rfl rfl (by decide +kernel) ⟨Nat.le_of_ble_eq_true rfl, Nat.le_of_ble_eq_true rfl⟩) (x_recv hK ((n6.1.rec).choose_spec) rfl) rfl hl.1 (Nat.le_of_ble_eq_true rfl) dX6_make_23 (by show _ ≤ (6 : Nat); omega) (by show _ ≤ (123 : Nat); omega)) hS hnt hlk (fun _ _ h _ => h.elim) (by show _ ≤ (6 : Nat); omega) (by show _ ≤ (123 : Nat); omega) (fun rq5_ H5 locs5 hP hz5 hS => ?_)
  obtain ⟨-, hL4, hz4, hq4⟩ := hP
  obtain ⟨tg2, y2, hT4, x4, hR4, f4⟩ := RepR.push hT3 hR3 e2 (by omega) hL4 hz4 hq4
  have hX4 := hX3.keptF hT3 f4 (by omega) (by omega)
  have hE4 := hE3.keptF hT3 f4 (by omega)
  refine lv_pop hx hb dX6_make_26 rfl ?_
  refine lv_aload_n hx hb dX6_make_27 rfl (lv_at hl 0 rfl) ?_
  refine x_getN (C := RX1) (TT := TX1) (N := 6) (ci := 4) (v := .int ((handle (sE M) sl))) hx hb hts in_X6_make_RX1 hown hK ((hE4 sl hs32).1) rfl 2 (by decide) (hev.2.2.2.2.1.2 ("Archeloft", 63, "Archeloft$Entity", "handle", "I") (by decide +kernel)) (fun _ h9 => h9) rfl dX6_make_28 ?_
  exact r_i hx hb hrt9 hlk hS (by omega) (by omega) dX6_make_31 (by
      have ho9 : oMake M = (0, handle (sE M) sl, wER M (makesE (sE M) sl) (rowAdd (sR M) 0 sl)) := by rw [← hsl]; exact if_neg (fun z => z.elim (fun z => by omega) (wo_n hwo hwn))
      rw [ho9]
      refine ⟨rfl, rfl, tg2, y2, ⟨hT4, hX4, hE4, hR4⟩, ?_, ?_⟩
      · exact fun q9 h9 => (x4 q9 (by have := f2.1; have := f3.1; omega)).trans (x3 q9 (by have := f2.1; omega))
      · exact ((f2.wk (fun t z => Or.inl z)).tr TX.rf (f3.wk (fun t z => Or.inr (by omega)))).tr (fun q9 h9 => x3 q9 (by have := f2.1; omega)) (f4.wk (fun t z => Or.inr (by omega))))

theorem ends_at {D : va_G} {T : Nat → ClassId} {b0 sl : Nat} {H H1 : Heap} {E : mE} (hE : PE D T b0 H E) (hs32 : sl < 32) (ho : oc D H1 (ea b0 sl) 4 [.ref (ea b0 sl + 1), .ref (ea b0 sl + 2), .int (handle E sl + nI 32), .int (bI false), .null, .int (nI 0)]) (e : ∀ q : Nat, q ≠ ea b0 sl → H1[q]? = H[q]?) : PE D T b0 H1 (endE E sl) := by
  have a1 : mAl (endE E sl) sl = false := nu_s
  have a2 : mKd (endE E sl) sl = 0 := nu_s
  have a3 : mPar (endE E sl) sl = none := nu_s
  have a4 : handle (endE E sl) sl = handle E sl + nI 32 := by
    unfold handle
    rw [show mHad (endE E sl) sl = mHad E sl + 1 from nu_s, nI_add]
    rfl
  refine hE.st hs32 ?_ rfl rfl (fun k hk => ⟨nu_n hk, nu_n hk, nu_n hk, nu_n hk⟩) e
  rw [a1, a2, a3, a4]
  exact ho
theorem end_1 {M : mSt} {x : Int32} (h : look (sE M) x = none) : oEnd M x = oErr M 1 := by unfold oEnd; rw [h]
theorem end_2 {M : mSt} {x : Int32} {sl : Nat} (h : look (sE M) x = some sl) (h2 : wOn (sW M) = true) : oEnd M x = oErr M 2 := by unfold oEnd; rw [h]; exact if_pos h2
theorem end_0 {M : mSt} {x : Int32} {sl : Nat} (h : look (sE M) x = some sl) (h2 : ¬ wOn (sW M) = true) : oEnd M x = (0, nI (ends (sE M) (sR M) sl).2.2, wER M (ends (sE M) (sR M) sl).1 (ends (sE M) (sR M) sl).2.1) := by unfold oEnd; rw [h]; exact if_neg h2
theorem InvR.ok0 {E : mE} {R : mR} (hE : InvE0 E) (h : InvR E R) : okR R := ⟨h.1, h.2.1, fun r j hr hj => hE.2.1 _ (h.2.2.1 r j hr hj).1, h.2.2.2.1⟩
set_option maxRecDepth 100000 in
theorem in_X6_end_RX1 : ∀ w ∈ wsX10, w ∈ wsX6_end := by decide +kernel
set_option maxHeartbeats 4000000 in
set_option maxRecDepth 100000 in
theorem c_X6_end (l : Launch) {D : va_G} {T : Nat → ClassId} {dE mi : Nat} (hst : l.stackTraces = false) {A : Nat → Prop} {H : Heap} {b0 : Nat} {tg : Nat → Nat} {wo : Option Nat} {M : mSt} {y : mLy} (hC : Core D T dE b0 tg H A (sE M) (sR M) y wo (sT M)) (iE : InvE (sE M)) (iR : InvR (sE M) (sR M)) (hwo : wOn (sW M) = wo.isSome) (x : Int32) : vx_Met l yX6_end wsX6_end (rmL 9 7 95) (PcE D T dE mi A H [.ref b0, .int x]) (QI A (fun r H1 => (oEnd M x).1 = 0 ∧ r = (oEnd M x).2.1 ∧ Nxt D T dE b0 A tg H H1 (sE (oEnd M x).2.2) (sR (oEnd M x).2.2) wo (sT M))) (XX A (XE H (fun E9 => (E9 = "java/util/NoSuchElementException" ∧ (oEnd M x).1 = 1) ∨ (E9 = "java/lang/IllegalStateException" ∧ (oEnd M x).1 = 2)))) 7 95 A := by
  refine entry (cc := cX6_end) (maxL := 6) (ret := (some .int)) (by decide) rfl (Nat.le_of_ble_eq_true rfl) ?_
  intro p e s m args below meth c hx hb hrt9 hml hown hts hlk hnt hnm hev hS ls hl
  have hown : s.vm.findClass RX6 = some m.cls := hown
  have hK := hev.1
  have hl : lv_has ls 6 [(0, .ref b0), (1, .int x)] := hl
  obtain ⟨hT, hX, hE, hR⟩ := id hC
  refine lv_aload_n hx hb dX6_end_0 rfl (lv_at hl 0 rfl) ?_
  refine lv_iload_n hx hb dX6_end_1 rfl (lv_at hl 1 rfl) ?_
  refine k_qp (k_V (As := [.int x]) (rest := []) ⟨hx, hb, hml, hown, hts⟩ hev hS (c_X6_entityOf l hst hX hE x) (cwV 1 hts gX6_end_X6_entityOf rfl rfl rfl (by decide +kernel) ⟨Nat.le_of_ble_eq_true rfl, Nat.le_of_ble_eq_true rfl⟩) (x_recv hK hX.1 rfl) rfl hl.1 (Nat.le_of_ble_eq_true rfl) dX6_end_2 (Nat.le_of_ble_eq_true rfl) (Nat.le_of_ble_eq_true rfl)) hS hnt hlk (fun E9 H9 h9 z9 => ⟨Or.inl ⟨h9.1.1, by rw [end_1 h9.1.2]; rfl⟩, h9.2⟩) (Nat.le_of_ble_eq_true rfl) (Nat.le_of_ble_eq_true rfl) (fun rq1_ H1 locs1 hP hz1 hS => ?_)
  obtain ⟨eH, sl, hlk9, er⟩ := hP
  have eH := eH.symm
  subst eH
  refine x_tov (y := .ref ((ea b0 sl))) (by rw [er]; rfl) ?_
  obtain ⟨hs32, hsal, -⟩ := look_some hlk9
  refine lv_astore_n (lv' := [(2, .ref ((ea b0 sl))), (0, .ref b0), (1, .int x)]) hx hb dX6_end_5 rfl hl (by decide) rfl (fun ls hl => ?_)
  refine lv_aload_n hx hb dX6_end_6 rfl (lv_at hl 1 rfl) ?_
  refine k_vp (k_V (As := []) (rest := []) ⟨hx, hb, hml, hown, hts⟩ hev hS (c_X6_refuseDuringWalk l hst hX.1) (cwV 0 hts gX6_end_X6_refuseDuringWalk rfl rfl rfl (by decide +kernel) ⟨Nat.le_of_ble_eq_true rfl, Nat.le_of_ble_eq_true rfl⟩) (x_recv hK hX.1 rfl) rfl hl.1 (Nat.le_of_ble_eq_true rfl) dX6_end_7 (Nat.le_of_ble_eq_true rfl) (Nat.le_of_ble_eq_true rfl)) hS hnt hlk (fun E9 H9 h9 z9 => ⟨Or.inr ⟨h9.1.1, by rw [end_2 hlk9 (wo_s hwo h9.1.2)]; rfl⟩, h9.2⟩) (Nat.le_of_ble_eq_true rfl) (Nat.le_of_ble_eq_true rfl) (fun H2 locs2 hP hz2 hS => ?_)
  obtain ⟨eH, hwn⟩ := hP
  have eH := eH.symm
  subst eH
  refine lv_aload_n hx hb dX6_end_10 rfl (lv_at hl 1 rfl) ?_
  refine lv_aload_n hx hb dX6_end_11 rfl (lv_at hl 0 rfl) ?_
  obtain ⟨hfe, hfa, hfn, hfl, hfm⟩ := fam_ends iE iR hsal
  refine k_qp (k_V (As := [.ref ((ea b0 sl))]) (rest := []) ⟨hx, hb, hml, hown, hts⟩ hev hS (c_X6_familyOf l hst hX hE hT.2.1 (fun k hk => ea_A hT hk (i := 0) (by decide)) hs32 hfl hfm) (cwV 1 hts gX6_end_X6_familyOf rfl rfl rfl (by decide +kernel) ⟨Nat.le_of_ble_eq_true rfl, Nat.le_of_ble_eq_true rfl⟩) (x_recv hK hX.1 rfl) rfl hl.1 (Nat.le_of_ble_eq_true rfl) dX6_end_12 (Nat.le_of_ble_eq_true rfl) (Nat.le_of_ble_eq_true rfl)) hS hnt hlk (fun _ _ h _ => h.elim) (Nat.le_of_ble_eq_true rfl) (Nat.le_of_ble_eq_true rfl) (fun rq3_ H3 locs3 hP hz3 hS => ?_)
  obtain ⟨er5, arr, cap, hFL, hokf, har, hkp⟩ := hP
  refine x_tov (y := .ref H.size) (by rw [er5]; rfl) ?_
  have hC0 := hC.kp hkp
  have hta : tg H.size = 0 := hT.fr (Nat.le_refl _)
  have htr : tg arr = 0 := by
    by_cases h0 : 0 < cap
    · exact hT.fr (har h0)
    · obtain ⟨d1, d2, d3⟩ := hev.dE hS
      rw [hFL.2.2.2.1 (by omega)]
      by_cases z : tg dE = 0
      · exact z
      · exact absurd (hT.1 _ z).1 d3
  have hf0 : FR tg CS H H3 := FR.kp hkp
  refine lv_astore_n (lv' := [(3, .ref H.size), (2, .ref ((ea b0 sl))), (0, .ref b0), (1, .int x)]) hx hb dX6_end_15 rfl hl (by decide) rfl (fun ls hl => ?_)
  refine lv_iconst (v := nI 0) hx hb dX6_end_16 (by decide) ?_
  refine lv_istore (lv' := [(4, .int (nI 0)), (3, .ref H.size), (2, .ref ((ea b0 sl))), (0, .ref b0), (1, .int x)]) hx hb dX6_end_17 hl (by decide) rfl (fun ls hl => ?_)
  have loop19 : ∀ (n : Nat) (i : Nat) (q9 r9 : List Nat) (H9 : Heap) (locs9 : List Loc), (famL (sE M) sl).length - i < n → (i ≤ (famL (sE M) sl).length) → ((famL (sE M) sl) = q9 ++ r9) → (q9.length = i) → (Core D T dE b0 tg H9 A (foldE q9 (sE M) (sR M)).1 (foldE q9 (sE M) (sR M)).2 y wo (sT M)) → (FR tg CS H H9) → (AL D T dE H9 H.size arr cap (famL (sE M) sl).length (fun j => ea b0 (gL (famL (sE M) sl) j))) → (va_S A s.heap H9 locs9) → ∀ (ls : Array Slot), lv_has ls 6 [(4, .int (nI i)), (3, .ref H.size), (0, .ref b0)] → W p l e (rmL 9 7 95) s m args below meth c H9 locs9 (0 + 1 + 1 + 5) (0 + 6 + 6 + 83) (vx_MQ below (QI A (fun r H1 => (oEnd M x).1 = 0 ∧ r = (oEnd M x).2.1 ∧ Nxt D T dE b0 A tg H H1 (sE (oEnd M x).2.2) (sR (oEnd M x).2.2) wo (sT M))) (XX A (XE H (fun E9 => (E9 = "java/util/NoSuchElementException" ∧ (oEnd M x).1 = 1) ∨ (E9 = "java/lang/IllegalStateException" ∧ (oEnd M x).1 = 2)))) args s 7 95 A) (F0 m 19 ls []) := by
    intro n
    induction n with
    | zero => intro i q9 r9 H9 locs9 hfuel; exact absurd hfuel (Nat.not_lt_zero _)
    | succ n ih19 =>
      intro i q9 r9 H9 locs9 hfuel hi hqr hlen hC9 hf9 hFL hS ls hl
      obtain ⟨hT9, hX9, hE9, hR9⟩ := id hC9
      refine lv_iload hx hb dX6_end_19 (lv_at hl 0 rfl) ?_
      refine lv_aload_n hx hb dX6_end_21 rfl (lv_at hl 1 rfl) ?_
      refine k_ip (k_V (As := []) (rest := [.int (nI i)]) ⟨hx, hb, hml, hown, hts⟩ hev hS (c_Jx4a65c_size_8abf5 l hFL) (cwV 0 hts gX6_end_Jx4a65c_size_8abf5 rfl rfl rfl (by decide +kernel) ⟨Nat.le_of_ble_eq_true rfl, Nat.le_of_ble_eq_true rfl⟩) (x_recv hK ((hFL.rec).choose_spec) rfl) rfl hl.1 (Nat.le_of_ble_eq_true rfl) dX6_end_22 (Nat.le_of_ble_eq_true rfl) (Nat.le_of_ble_eq_true rfl)) hS hnt hlk (fun _ _ h _ => h.elim) (Nat.le_of_ble_eq_true rfl) (Nat.le_of_ble_eq_true rfl) (fun rq4_ H4 locs4 hP hz4 hS => ?_)
      refine W.widen (k := 0 + 1 + 1 + 5) (n := 0 + 6 + 6 + 83) (Nat.le_refl _) (Nat.le_refl _) ?_
      obtain ⟨eH, er⟩ := hP
      have eH := eH.symm
      subst eH
      refine x_top (y := (nI ((famL (sE M) sl).length))) (er) ?_
      refine y_icmp_ge hx hb (by omega) (by omega) (tgt := 64) dX6_end_25 (by decide) (fun c25 => ?_) (fun c25 => ?_)
      · refine lv_aload_n hx hb dX6_end_64 rfl (lv_at hl 1 rfl) ?_
        refine k_ip (k_V (As := []) (rest := []) ⟨hx, hb, hml, hown, hts⟩ hev hS (c_Jx4a65c_size_8abf5 l hFL) (cwV 0 hts gX6_end_Jx4a65c_size_8abf5 rfl rfl rfl (by decide +kernel) ⟨Nat.le_of_ble_eq_true rfl, Nat.le_of_ble_eq_true rfl⟩) (x_recv hK ((hFL.rec).choose_spec) rfl) rfl hl.1 (Nat.le_of_ble_eq_true rfl) dX6_end_65 (Nat.le_of_ble_eq_true rfl) (Nat.le_of_ble_eq_true rfl)) hS hnt hlk (fun _ _ h _ => h.elim) (Nat.le_of_ble_eq_true rfl) (Nat.le_of_ble_eq_true rfl) (fun rq5_ H5 locs5 hP hz5 hS => ?_)
        refine W.widen (k := 0 + 1 + 1 + 5) (n := 0 + 6 + 6 + 83) (Nat.le_refl _) (Nat.le_refl _) ?_
        obtain ⟨eH, er⟩ := hP
        have eH := eH.symm
        subst eH
        refine x_top (y := (nI ((famL (sE M) sl).length))) (er) ?_
        exact r_i hx hb hrt9 hlk hS (Nat.le_of_ble_eq_true rfl) (Nat.le_of_ble_eq_true rfl) dX6_end_68 (by
            have hq9 : q9 = famL (sE M) sl := by
              have h0 : r9 = [] := List.eq_nil_of_length_eq_zero (by have h1 := congrArg List.length hqr; rw [List.length_append] at h1; omega)
              rw [hqr, h0, List.append_nil]
            rw [end_0 hlk9 (wo_n hwo hwn), hfe]
            rw [hq9] at hC9
            exact ⟨rfl, rfl, tg, y, hC9, TX.rf, hf9⟩)
      · obtain ⟨s9, r8, hr9⟩ : ∃ s9 r8, r9 = s9 :: r8 := by
          cases r9 with
          | nil => exact absurd c25 (by rw [hqr, List.append_nil]; omega)
          | cons a b => exact ⟨a, b, rfl⟩
        have hgi : gL (famL (sE M) sl) i = s9 := by rw [hqr, hr9, ← hlen]; exact gL_at
        have hm9 : s9 ∈ famL (sE M) sl := by rw [hqr, hr9]; exact List.mem_append.mpr (Or.inr List.mem_cons_self)
        have hs9 := hfm s9 hm9
        obtain ⟨iE9, iR9, ha9⟩ := fold_inv q9 r9 (sE M) (sR M) iE.to0 iR (fun x hx => hfa x (by rw [hqr]; exact hx)) (by rw [← hqr]; exact hfn)
        have hal9 := ha9 s9 (by rw [hr9]; exact List.mem_cons_self)
        have ok9 := InvR.ok0 iE9 iR9
        obtain ⟨j0, hr0, hrs0, hj0, e0⟩ := iR9.at hal9
        have hks := iE9.1 s9
        refine lv_aload_n hx hb dX6_end_28 rfl (lv_at hl 1 rfl) ?_
        refine lv_iload hx hb dX6_end_29 (lv_at hl 0 rfl) ?_
        refine k_qp (k_V (As := [.int (nI i)]) (rest := []) ⟨hx, hb, hml, hown, hts⟩ hev hS (c_Jx4a65c_get_915e3 l hFL (i := i) c25) (cwV 1 hts gX6_end_Jx4a65c_get_915e3 rfl rfl rfl (by decide +kernel) ⟨Nat.le_of_ble_eq_true rfl, Nat.le_of_ble_eq_true rfl⟩) (x_recv hK ((hFL.rec).choose_spec) rfl) rfl hl.1 (Nat.le_of_ble_eq_true rfl) dX6_end_31 (Nat.le_of_ble_eq_true rfl) (Nat.le_of_ble_eq_true rfl)) hS hnt hlk (fun _ _ h _ => h.elim) (Nat.le_of_ble_eq_true rfl) (Nat.le_of_ble_eq_true rfl) (fun rq6_ H6 locs6 hP hz6 hS => ?_)
        refine W.widen (k := 0 + 1 + 1 + 5) (n := 0 + 6 + 6 + 83) (Nat.le_refl _) (Nat.le_refl _) ?_
        obtain ⟨eH, er⟩ := hP
        have eH := eH.symm
        subst eH
        refine x_tov (y := .ref ((ea b0 s9))) (by rw [er]; show va_rf (some (ea b0 (gL (famL (sE M) sl) i))) = _; rw [hgi]; rfl) ?_
        refine va_castE hx hb hown (hts (.classLink RX6 9 "Archeloft$Entity") (by decide +kernel)) (x_recv hK (hE9 s9 hs9).1 rfl) dX6_end_34 ?_
        refine lv_astore (lv' := [(5, .ref ((ea b0 s9))), (4, .int (nI i)), (3, .ref H.size), (0, .ref b0)]) hx hb dX6_end_37 hl (by decide) rfl (fun ls hl => ?_)
        refine lv_aload_n hx hb dX6_end_39 rfl (lv_at hl 3 rfl) ?_
        refine lv_aload hx hb dX6_end_40 (lv_at hl 0 rfl) ?_
        refine x_getN (C := RX1) (TT := TX1) (N := 6) (ci := 4) (v := .int (nI ((mKd (foldE q9 (sE M) (sR M)).1 s9)))) hx hb hts in_X6_end_RX1 hown hK ((hE9 s9 hs9).1) rfl 5 (by decide) (hev.2.2.2.2.1.2 ("Archeloft", 82, "Archeloft$Entity", "kindSet", "I") (by decide +kernel)) (fun _ h9 => h9) rfl dX6_end_42 ?_
        refine k_qp (k_V (As := [.int (nI ((mKd (foldE q9 (sE M) (sR M)).1 s9)))]) (rest := []) ⟨hx, hb, hml, hown, hts⟩ hev hS (c_rowOf_found l hst hX9 hR9 iR9.1 hks hr0) (cwV 1 hts gX6_end_X6_rowOf rfl rfl rfl (by decide +kernel) ⟨Nat.le_of_ble_eq_true rfl, Nat.le_of_ble_eq_true rfl⟩) (x_recv hK hX9.1 rfl) rfl hl.1 (Nat.le_of_ble_eq_true rfl) dX6_end_45 (Nat.le_of_ble_eq_true rfl) (Nat.le_of_ble_eq_true rfl)) hS hnt hlk (fun _ _ h _ => h.elim) (Nat.le_of_ble_eq_true rfl) (Nat.le_of_ble_eq_true rfl) (fun rq7_ H7 locs7 hP hz7 hS => ?_)
        refine W.widen (k := 0 + 1 + 1 + 5) (n := 0 + 6 + 6 + 83) (Nat.le_refl _) (Nat.le_refl _) ?_
        obtain ⟨eH, er⟩ := hP
        have eH := eH.symm
        subst eH
        refine x_tov (y := .ref ((yW y (row (foldE q9 (sE M) (sR M)).2 (mKd (foldE q9 (sE M) (sR M)).1 s9))))) (by rw [er]; rfl) ?_
        obtain ⟨n1, n2, n3⟩ := hR9.2 (row (foldE q9 (sE M) (sR M)).2 (mKd (foldE q9 (sE M) (sR M)).1 s9)) hr0
        refine lv_aload hx hb dX6_end_48 (lv_at hl 0 rfl) ?_
        refine k_vp (k_V (As := [.ref ((ea b0 s9))]) (rest := []) ⟨hx, hb, hml, hown, hts⟩ hev hS (c_X3_putOut l n1 n3.1 (n3.aa hT9 (by omega)) (n3.aA hT9) ⟨fun z => by have h7 := n3.nz; rw [← z, n2] at h7; omega, fun z => by have h7 := n3.2.2.1; rw [← z, n2] at h7; omega⟩ (fun j hj => ⟨_, (hE9 _ (ok9.2.2.1 _ j hr0 hj)).1⟩) hj0 (v := ea b0 s9) (congrArg (ea b0) e0) (fun j hj z => absurd (ok9.2.2.2 _ j j0 hr0 (by omega) hj0 ((ea_inj z).trans e0.symm)) (by omega))) (cwV 1 hts gX6_end_X3_putOut rfl rfl rfl (by decide +kernel) ⟨Nat.le_of_ble_eq_true rfl, Nat.le_of_ble_eq_true rfl⟩) (x_recv hK n1 rfl) rfl hl.1 (Nat.le_of_ble_eq_true rfl) dX6_end_50 (Nat.le_of_ble_eq_true rfl) (Nat.le_of_ble_eq_true rfl)) hS hnt hlk (fun _ _ h _ => h.elim) (Nat.le_of_ble_eq_true rfl) (Nat.le_of_ble_eq_true rfl) (fun H8 locs8 hP hz8 hS => ?_)
        refine W.widen (k := 0 + 1 + 1 + 5) (n := 0 + 6 + 6 + 83) (Nat.le_refl _) (Nat.le_refl _) ?_
        obtain ⟨hL1, hz1, hq1⟩ := hP
        obtain ⟨hR1, f1⟩ := hR9.del ok9 hr0 hj0 e0 hL1 hz1 hq1
        have hX1 := hX9.keptF hT9 f1 (by omega) (by omega)
        have hE1 := hE9.keptF hT9 f1 (by omega)
        have hT1 := hT9.kept f1.1
        have hFL : AL D T dE H8 H.size arr cap (famL (sE M) sl).length (fun j => ea b0 (gL (famL (sE M) sl) j)) := hFL.kept (f1.2 _ hFL.lt.1 (by rw [hta]; omega)) (f1.2 _ hFL.lt.2 (by rw [htr]; omega))
        refine lv_aload hx hb dX6_end_53 (lv_at hl 0 rfl) ?_
        refine k_vp (k_V (As := []) (rest := []) ⟨hx, hb, hml, hown, hts⟩ hev hS (c_X1_freeSlot l (hE1 s9 hs9).1 (ea_A hT hs9 (i := 0) (by decide))) (cwV 0 hts gX6_end_X1_freeSlot rfl rfl rfl (by decide +kernel) ⟨Nat.le_of_ble_eq_true rfl, Nat.le_of_ble_eq_true rfl⟩) (x_recv hK (hE1 s9 hs9).1 rfl) rfl hl.1 (Nat.le_of_ble_eq_true rfl) dX6_end_55 (Nat.le_of_ble_eq_true rfl) (Nat.le_of_ble_eq_true rfl)) hS hnt hlk (fun _ _ h _ => h.elim) (Nat.le_of_ble_eq_true rfl) (Nat.le_of_ble_eq_true rfl) (fun H9 locs9 hP hz9 hS => ?_)
        refine W.widen (k := 0 + 1 + 1 + 5) (n := 0 + 6 + 6 + 83) (Nat.le_refl _) (Nat.le_refl _) ?_
        obtain ⟨ho3, ez3, eq3⟩ := hP
        have hE2 := ends_at hE1 hs9 ho3 eq3
        have f2 := FR.ent hT1 hs9 ez3 eq3
        have hX2 := hX1.keptF hT1 f2 (by omega) (by omega)
        have hR2 := hR1.kept TX.rf f2 (fun t (z : t = 5) => by omega)
        have hT2 := hT1.kept f2.1
        have hFL : AL D T dE H9 H.size arr cap (famL (sE M) sl).length (fun j => ea b0 (gL (famL (sE M) sl) j)) := hFL.kept (f2.2 _ hFL.lt.1 (by rw [hta]; omega)) (f2.2 _ hFL.lt.2 (by rw [htr]; omega))
        have hC2 : Core D T dE b0 tg H9 A (foldE (q9 ++ [s9]) (sE M) (sR M)).1 (foldE (q9 ++ [s9]) (sE M) (sR M)).2 y wo (sT M) := by rw [foldE_snoc]; exact ⟨hT2, hX2, hE2, hR2⟩
        have hf2 : FR tg CS H H9 := (hf9.tr TX.rf (f1.wk (fun t z => Or.inr (by omega)))).tr TX.rf (f2.wk (fun t z => Or.inl z))
        refine lv_iinc (v := (nI (i + 1))) (lv' := [(4, .int (nI (i + 1))), (5, .ref ((ea b0 s9))), (3, .ref H.size), (0, .ref b0)]) hx hb dX6_end_58 hl (k := 1) rfl (nI_inc _) (by decide) rfl (fun ls hl => ?_)
        refine lv_goto (tgt := 19) hx hb dX6_end_61 (by decide) ?_
        exact ih19 (i + 1) (q9 ++ [s9]) r8 H9 locs9 (by omega) (by omega) (by rw [hqr, hr9, List.append_assoc]; rfl) (by rw [List.length_append, hlen]; rfl) hC2 hf2 hFL hS ls (lv_sub hl [0, 2, 3] rfl)
  exact loop19 (((famL (sE M) sl).length - 0) + 1) 0 [] (famL (sE M) sl) H3 locs3 (Nat.lt_succ_self _) (Nat.zero_le _) rfl rfl hC0 hf0 hFL hS ls (lv_sub hl [0, 1, 3] rfl)

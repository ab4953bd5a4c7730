theorem ens_no {R : mR} (h : okR R) {d k : Nat} (hd : d < 64) (hno : ∀ r j, r < rN R → j < rZ R r → rM R r j ≠ k) : ∀ j, j < rZ (rowEns R d) (row R d) → rM (rowEns R d) (row R d) j ≠ k := by
  obtain ⟨g1, g2, g3, g4, g5, g6, g7⟩ := ens_row h hd
  intro j hj
  rw [g6]
  rcases g7 _ g2 with c | ⟨c1, c2, c3⟩
  · rw [(g5 _ c).2] at hj; exact hno _ _ c hj
  · rw [c3] at hj; exact absurd hj (Nat.not_lt_zero j)
set_option maxRecDepth 100000 in
theorem in_X6_moveTo_RX1 : ∀ w ∈ wsX10, w ∈ wsX6_moveTo := by decide +kernel
set_option maxRecDepth 100000 in
theorem in_X6_moveTo_RX3 : ∀ w ∈ wsX30, w ∈ wsX6_moveTo := by decide +kernel
set_option maxHeartbeats 4000000 in
set_option maxRecDepth 100000 in
theorem c_X6_moveTo (l : Launch) {D : va_G} {T : Nat → ClassId} {dE mi : Nat} (hst : l.stackTraces = false) {A : Nat → Prop} {H : Heap} {b0 : Nat} {tg : Nat → Nat} {wo : Option Nat} {tk : Int32} {E : mE} {R : mR} {y : mLy} (hC : Core D T dE b0 tg H A E R y wo tk) (iE : InvE E) (iR : InvR E R) {sl d : Nat} (hal : mAl E sl = true) (hd : d < 64) : vx_Met l yX6_moveTo wsX6_moveTo (rmL 9 4 111) (PcE D T dE mi A H [.ref b0, .ref ((ea b0 sl)), .int (nI d)]) (QV A (fun H1 => Nxt D T dE b0 A tg H H1 (becomesE E sl d) (becomesR E R sl d) wo tk)) (XX A (XN)) 4 111 A := by
  refine entry (cc := cX6_moveTo) (maxL := 3) (ret := none) (by decide) rfl (Nat.le_of_ble_eq_true rfl) ?_
  intro p e s m args below meth c hx hb hrt9 hml hown hts hlk hnt hnm hev hS ls hl
  have hown : s.vm.findClass RX6 = some m.cls := hown
  have hK := hev.1
  have hl : lv_has ls 3 [(0, .ref b0), (1, .ref ((ea b0 sl))), (2, .int (nI d))] := hl
  obtain ⟨hT, hX, hE, hR⟩ := id hC
  have ok := iR.ok iE
  obtain ⟨j0, hr0, hrs0, hj0, e0⟩ := iR.at hal
  have hs32 := iE.2.1 sl hal
  obtain ⟨n1, n2, n3⟩ := hR.2 (row R (mKd E sl)) hr0
  have hks := iE.1 sl
  obtain ⟨R1, hR1e⟩ : ∃ R1, R1 = rowDel R (row R (mKd E sl)) sl := ⟨_, rfl⟩
  have ok1 := (leave_mem iE iR hal).1
  have hno := (leave_mem iE iR hal).2.1
  rw [← hR1e] at ok1 hno
  have hno1 : ∀ r j, r < rN R1 → j < rZ R1 r → rM R1 r j ≠ sl := fun r j hr hj => (hno r j (by rw [hR1e] at hr; exact hr) hj).1
  obtain ⟨ok3, e2, -, -, -, -, -⟩ := ens_row ok1 hd
  have hzl := ok3.zlt e2 hs32 (ens_no ok1 hd hno1)
  have hdr := @dRC_le R1 d
  have hdr2 := @dRS_le R1 d
  refine lv_aload_n hx hb dX6_moveTo_0 rfl (lv_at hl 0 rfl) ?_
  refine lv_aload_n hx hb dX6_moveTo_1 rfl (lv_at hl 1 rfl) ?_
  refine x_getN (C := RX1) (TT := TX1) (N := 6) (ci := 4) (v := .int (nI ((mKd E sl)))) hx hb hts in_X6_moveTo_RX1 hown hK ((hE sl hs32).1) rfl 5 (by decide) (hev.2.2.2.2.1.2 ("Archeloft", 82, "Archeloft$Entity", "kindSet", "I") (by decide +kernel)) (fun _ h9 => h9) rfl dX6_moveTo_2 ?_
  refine k_qp (k_V (As := [.int (nI ((mKd E sl)))]) (rest := []) ⟨hx, hb, hml, hown, hts⟩ hev hS (c_rowOf_found l hst hX hR iR.1 hks hr0) (cwV 1 hts gX6_moveTo_X6_rowOf rfl rfl rfl (by decide +kernel) ⟨Nat.le_of_ble_eq_true rfl, Nat.le_of_ble_eq_true rfl⟩) (x_recv hK hX.1 rfl) rfl hl.1 (Nat.le_of_ble_eq_true rfl) dX6_moveTo_5 (Nat.le_of_ble_eq_true rfl) (Nat.le_of_ble_eq_true rfl)) hS hnt hlk (fun _ _ h _ => h.elim) (Nat.le_of_ble_eq_true rfl) (Nat.le_of_ble_eq_true rfl) (fun rq1_ H1 locs1 hP hz1 hS => ?_)
  refine W.widen (k := 0) (n := 0) (Nat.le_refl _) (Nat.le_refl _) ?_
  obtain ⟨eH, er⟩ := hP
  have eH := eH.symm
  subst eH
  refine x_tov (y := .ref ((yW y (row R (mKd E sl))))) (by rw [er]; rfl) ?_
  refine lv_aload_n hx hb dX6_moveTo_8 rfl (lv_at hl 1 rfl) ?_
  refine k_vp (k_V (As := [.ref ((ea b0 sl))]) (rest := []) ⟨hx, hb, hml, hown, hts⟩ hev hS (c_X3_putOut l n1 n3.1 (n3.aa hT (by omega)) (n3.aA hT) ⟨fun z => by have h7 := n3.nz; rw [← z, n2] at h7; omega, fun z => by have h7 := n3.2.2.1; rw [← z, n2] at h7; omega⟩ (fun j hj => ⟨_, (hE _ (ok.2.2.1 _ j hr0 hj)).1⟩) hj0 (v := ea b0 sl) (congrArg (ea b0) e0) (fun j hj z => absurd (ok.2.2.2 _ j j0 hr0 (by omega) hj0 ((ea_inj z).trans e0.symm)) (by omega))) (cwV 1 hts gX6_moveTo_X3_putOut rfl rfl rfl (by decide +kernel) ⟨Nat.le_of_ble_eq_true rfl, Nat.le_of_ble_eq_true rfl⟩) (x_recv hK n1 rfl) rfl hl.1 (Nat.le_of_ble_eq_true rfl) dX6_moveTo_9 (Nat.le_of_ble_eq_true rfl) (Nat.le_of_ble_eq_true rfl)) hS hnt hlk (fun _ _ h _ => h.elim) (Nat.le_of_ble_eq_true rfl) (Nat.le_of_ble_eq_true rfl) (fun H2 locs2 hP hz2 hS => ?_)
  refine W.widen (k := 0) (n := 0) (Nat.le_refl _) (Nat.le_refl _) ?_
  obtain ⟨hL1, hz1, hq1⟩ := hP
  obtain ⟨hR1, f1⟩ := hR.del ok hr0 hj0 e0 hL1 hz1 hq1
  rw [← hR1e] at hR1
  have hX1 := hX.keptF hT f1 (by omega) (by omega)
  have hE1 := hE.keptF hT f1 (by omega)
  have hT1 := hT.kept f1.1
  refine lv_aload_n hx hb dX6_moveTo_12 rfl (lv_at hl 1 rfl) ?_
  refine lv_iload_n hx hb dX6_moveTo_13 rfl (lv_at hl 2 rfl) ?_
  refine x_putN (C := RX1) (TT := TX1) (N := 6) (ci := 4) (v := .int (nI d)) (ty := tyX1 5) hx hb hts in_X6_moveTo_RX1 tyX1 tyX1_ok nmX1 hown hK hS ((hE1 sl hs32).1) (ea_A hT hs32 (i := 0) (by decide)) rfl 5 (by decide) (hev.2.2.2.2.1.2 ("Archeloft", 82, "Archeloft$Entity", "kindSet", "I") (by decide +kernel)) (fun _ h9 => h9) rfl (tyX1_ok 5 (by decide)) rfl rfl (Nat.le_of_ble_eq_true rfl) dX6_moveTo_14 (fun H3 locs3 ho3 hz3 hq3 hS => ?_)
  have ho3 : oc D H3 (ea b0 sl) 4 [.ref (((ea b0 sl) + 1)), .ref (((ea b0 sl) + 2)), .int ((handle E sl)), .int (bI ((mAl E sl))), va_rf (((mPar E sl).map (ea b0))), .int (nI d)] := ho3
  have hE2 : PE D T b0 H3 (becomesE E sl d) := hE1.st hs32 (by rw [show mKd (becomesE E sl d) sl = d from nu_s]; exact ho3) rfl rfl (fun k hk => ⟨rfl, rfl, rfl, nu_n hk⟩) hq3
  have f2 := FR.ent hT1 hs32 hz3 hq3
  have hX2 := hX1.keptF hT1 f2 (by omega) (by omega)
  have hR2 := hR1.kept TX.rf f2 (fun t (z : t = 5) => by omega)
  have hT2 := hT1.kept f2.1
  refine lv_aload_n hx hb dX6_moveTo_17 rfl (lv_at hl 0 rfl) ?_
  refine lv_iload_n hx hb dX6_moveTo_18 rfl (lv_at hl 2 rfl) ?_
  refine k_qp (k_V (As := [.int (nI d)]) (rest := []) ⟨hx, hb, hml, hown, hts⟩ hev hS (c_rowOf l hst hX2 hR2 ok1.1 hd hT2 (fun z => ok1.new hd z)) (cwV 1 hts gX6_moveTo_X6_rowOf rfl rfl rfl (by decide +kernel) ⟨Nat.le_of_ble_eq_true rfl, Nat.le_of_ble_eq_true rfl⟩) (x_recv hK hX2.1 rfl) rfl hl.1 (Nat.le_of_ble_eq_true rfl) dX6_moveTo_19 (by show _ ≤ (4 : Nat); omega) (by show _ ≤ (111 : Nat); omega)) hS hnt hlk (fun _ _ h _ => h.elim) (by show _ ≤ (4 : Nat); omega) (by show _ ≤ (111 : Nat); omega) (fun rq4_ H4 locs4 hP hz4 hS => ?_)
  obtain ⟨tg1, y1, hT3, x3, hR3, er3, f3⟩ := hP
  refine x_tov (y := .ref ((yW y1 (row R1 d)))) (by rw [er3]; rfl) ?_
  have hX3 := hX2.keptF hT2 f3 (by omega) (by omega)
  have hE3 := hE2.keptF hT2 f3 (by omega)
  obtain ⟨n4, n5, n6⟩ := hR3.2 (row R1 d) e2
  have hds := dS_le32 n6.2.1 n6.1.2.1 hzl
  have hdc := @dC_le (yK y1 (row R1 d)) (rZ (rowEns R1 d) (row R1 d))
  refine x_getN (C := RX3) (TT := TX3) (N := 2) (ci := 6) (v := .ref ((yL y1 (row R1 d)))) hx hb hts in_X6_moveTo_RX3 hown hK (n4) rfl 1 (by decide) (hev.2.2.2.2.1.2 ("Archeloft", 54, "Archeloft$Row", "members", "Ljava/util/ArrayList;") (by decide +kernel)) (fun _ h9 => h9) rfl dX6_moveTo_22 ?_
  refine lv_aload_n hx hb dX6_moveTo_25 rfl (lv_at hl 1 rfl) ?_
  refine k_ip (k_V (As := [.ref ((ea b0 sl))]) (rest := []) ⟨hx, hb, hml, hown, hts⟩ hev hS (c_addL l n6.1 n6.2.1.lt (n6.aa hT3 (by omega)) (n6.aA hT3) hT3.2.1 (ci := 4) (rr := (RX1, TX1, 6)) (fun x hx2 => ⟨fun z => by have h7 := ea_tg hT3 (ok3.2.2.1 _ x e2 hx2); have h8 : tg1 (ea b0 (rM (rowEns R1 d) (row R1 d) x)) = 1100 + 2 * (row R1 d) := (congrArg tg1 z).trans n6.2.2.1; omega, _, (hE3 _ (ok3.2.2.1 _ x e2 hx2)).1⟩) rfl (by decide +kernel) (hE3 sl hs32).1 (fun z => by have h7 := ea_tg hT3 hs32; have h8 : tg1 (ea b0 sl) = 1100 + 2 * (row R1 d) := (congrArg tg1 z).trans n6.2.2.1; omega)) (cwV 1 hts gX6_moveTo_Jx4a65c_add_9ea2d rfl rfl rfl (by decide +kernel) ⟨Nat.le_of_ble_eq_true rfl, Nat.le_of_ble_eq_true rfl⟩) (x_recv hK ((n6.1.rec).choose_spec) rfl) rfl hl.1 (Nat.le_of_ble_eq_true rfl) dX6_moveTo_26 (by show _ ≤ (4 : Nat); omega) (by show _ ≤ (111 : Nat); omega)) hS hnt hlk (fun _ _ h _ => h.elim) (by show _ ≤ (4 : Nat); omega) (by show _ ≤ (111 : Nat); omega) (fun rq5_ H5 locs5 hP hz5 hS => ?_)
  obtain ⟨-, hL4, hz4, hq4⟩ := hP
  obtain ⟨tg2, y2, hT4, x4, hR4, f4⟩ := RepR.push hT3 hR3 e2 (by omega) hL4 hz4 hq4
  have hX4 := hX3.keptF hT3 f4 (by omega) (by omega)
  have hE4 := hE3.keptF hT3 f4 (by omega)
  refine lv_pop hx hb dX6_moveTo_29 rfl ?_
  exact r_v hx hb hrt9 hlk hS (by omega) (by omega) dX6_moveTo_30 (by
      have x31 : TX tg H tg1 := fun q9 h9 => x3 q9 (by have := f1.1; have := f2.1; omega)
      refine ⟨tg2, y2, ⟨hT4, hX4, hE4, ?_⟩, x31.tr x4 (by have := f1.1; have := f2.1; have := f3.1; omega), ((((f1.wk ?_).tr TX.rf (f2.wk ?_)).tr TX.rf (f3.wk ?_)).tr x31 (f4.wk ?_))⟩
      · show RepR D T dE b0 tg2 H5 (rowAdd (rowDel R (row R (mKd E sl)) sl) d sl) y2
        rw [← hR1e]; exact hR4
      · intro t z; unfold CS; omega
      · intro t z; exact Or.inl z
      · intro t z; unfold CS; omega
      · intro t z; unfold CS; omega)

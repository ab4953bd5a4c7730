set_option maxHeartbeats 4000000 in
set_option maxRecDepth 100000 in
theorem law_walk {p : Program} {l : Launch} {e : Env} {s : State} {m : MethodId} {below : List Frame} {meth : Method} {c : Code} {Q : State → Prop} {b : Nat} {D : va_G} {T : Nat → ClassId} {dE mi b0 g : Nat} (hst : l.stackTraces = false) (hx : p.tables.exec = Jvm.exec) (hb : c.code = cL_law) (hml : c.maxLocals = 26) (hown : s.vm.findClass RL = some m.cls) (hts : ∀ w ∈ wsL_law, w.before #[Value.ref b] s = true) (hev : EV D T dE mi (fun q : Nat => s.heap.size ≤ q) s) {k : Nat} (hk : k < 70) {H : Heap} {locs : List Loc} {M : mSt} {Y : Nat → Nat → Int32} (hPK : PK D T dE b0 (fun q : Nat => s.heap.size ≤ q) g Y M H) (hR : LRel Y M) (hI : Inv (800 * k) M) (hS : va_S (fun q : Nat => s.heap.size ≤ q) s.heap H locs) {kx ox px kd9 : Nat} {x z vx : Int32} {hv : Bool} (hkx : kx < 10) (hox : ox < 10) (hpx : px < 6) (hhv : mAl (sE M) kx = true → hv = bitS (mKd (sE M) kx) px) {ls : Array Slot} (hl : lv_has ls 26 [(21, .int (bI hv)), (20, .int (bI (mAl (sE M) kx))), (19, .int vx), (18, .int (nI px)), (17, .int (handle (sE M) kx)), (16, .int (nI ox)), (15, .int (nI kx)), (14, .int (nI kd9)), (13, .int z), (12, .int x), (11, .int (nI k)), (10, .ref (g + 9)), (9, .ref (g + 8)), (8, .ref (g + 7)), (7, .ref (g + 6)), (6, .ref (g + 5)), (5, .ref (g + 4)), (4, .ref (g + 3)), (3, .ref (g + 2)), (2, .ref (g + 1)), (1, .ref b0), (0, .ref b)])
    (hchk : ∀ (H1 : Heap) (locs1 : List Loc) (M1 : mSt) (Y1 : Nat → Nat → Int32) (ls1 : Array Slot), PK D T dE b0 (fun q : Nat => s.heap.size ≤ q) g Y1 M1 H1 → LRel Y1 M1 → Inv (800 * (k + 1)) M1 → va_S (fun q : Nat => s.heap.size ≤ q) s.heap H1 locs1 → lv_has ls1 26 [(11, .int (nI k)), (10, .ref (g + 9)), (9, .ref (g + 8)), (8, .ref (g + 7)), (7, .ref (g + 6)), (6, .ref (g + 5)), (5, .ref (g + 4)), (4, .ref (g + 3)), (3, .ref (g + 2)), (2, .ref (g + 1)), (1, .ref b0), (0, .ref b)] → W p l e room_1 s m #[Value.ref b] below meth c H1 locs1 (200 + 4400 * k + 300) (5000 + 50000 * k + 5400) Q (F0 m 1955 ls1 [])) (hnxt : ∀ (H1 : Heap) (locs1 : List Loc) (M1 : mSt) (Y1 : Nat → Nat → Int32) (ls1 : Array Slot), PK D T dE b0 (fun q : Nat => s.heap.size ≤ q) g Y1 M1 H1 → LRel Y1 M1 → Inv (800 * (k + 1)) M1 → va_S (fun q : Nat => s.heap.size ≤ q) s.heap H1 locs1 → lv_has ls1 26 [(11, .int (nI k)), (10, .ref (g + 9)), (9, .ref (g + 8)), (8, .ref (g + 7)), (7, .ref (g + 6)), (6, .ref (g + 5)), (5, .ref (g + 4)), (4, .ref (g + 3)), (3, .ref (g + 2)), (2, .ref (g + 1)), (1, .ref b0), (0, .ref b)] → W p l e room_1 s m #[Value.ref b] below meth c H1 locs1 (200 + 4400 * (k + 1)) (5000 + 50000 * (k + 1)) Q (F0 m 1986 ls1 [])) (hrtn : ∀ (H1 : Heap) (locs1 : List Loc) (ls1 : Array Slot), va_S (fun q : Nat => s.heap.size ≤ q) s.heap H1 locs1 → W p l e room_1 s m #[Value.ref b] below meth c H1 locs1 (200 + 4400 * (k + 1)) (5000 + 50000 * (k + 1)) Q (F0 m 1848 ls1 [.int (nI 1)])) : W p l e room_1 s m #[Value.ref b] below meth c H locs (200 + 4400 * k) (5000 + 50000 * k) Q (F0 m 1361 ls []) := by
  have hK := hev.1
  have hL := hPK.sl
  have hAS := hPK.as
  have hh := hI.had
  have iE := hI.1
  have iR := hI.2.1
  have hT := hR.1
  have h10 := hT.1.2.2.2.2.1
  have hq8 := hI.2.2.1.1
  have iQ := hI.2.2.1
  have ok := iR.ok iE
  have h64 := ok.le
  refine lv_aload hx hb dL_law_1361 (lv_at hl 11 rfl) ?_
  refine lv_iconst (v := nI 2) hx hb dL_law_1363 (by decide) ?_
  refine n_ld9 (i := 2) hx hb hK hL (by omega) dL_law_1364 ?_
  refine x_top (y := (nI ((sQ M).1))) (hR.2.1.1) ?_
  refine y_if_ne hx hb (by omega) (tgt := 1372) dL_law_1365 (by decide) (fun c1365 => ?_) (fun c1365 => ?_)
  · have hqp := c1365
    refine lv_iload hx hb dL_law_1372 (lv_at hl 8 rfl) ?_
    refine lv_aload hx hb dL_law_1374 (lv_at hl 11 rfl) ?_
    refine lv_iconst (v := nI 2) hx hb dL_law_1376 (by decide) ?_
    refine n_ld9 (i := 2) hx hb hK hL (by omega) dL_law_1377 ?_
    refine x_top (y := (nI ((sQ M).1))) (hR.2.1.1) ?_
    refine k_iN (k_S (As := [.int z, .int (nI ((sQ M).1))]) (rest := []) ⟨hx, hb, hml, hown, hts⟩ hev hS (c_L_low l (z) (q := (sQ M).1) (by omega) (by omega)) (va_cwS 2 hts gL_law_L_low rfl rfl rfl (by decide +kernel) ⟨Nat.le_of_ble_eq_true rfl, Nat.le_of_ble_eq_true rfl⟩) rfl hl.1 (Nat.le_of_ble_eq_true rfl) dL_law_1378 (by show _ ≤ (704995 : Nat); omega) (by show _ ≤ (6986640 : Nat); omega)) hS (fun rq1_ H1 locs1 hP hz1 hS => ?_)
    refine W.widen (k := 200 + 4400 * k) (n := 5000 + 50000 * k) (Nat.le_refl _) (Nat.le_refl _) ?_
    have hPK : PK D T dE b0 (fun q : Nat => s.heap.size ≤ q) g Y M H1 := by rw [hP.1]; exact hPK
    have hL := hPK.sl
    obtain ⟨-, j1, hj1, ej1⟩ := hP
    refine x_top (y := (nI j1)) (ej1) ?_
    refine lv_istore (lv' := [(22, .int (nI j1)), (21, .int (bI hv)), (20, .int (bI (mAl (sE M) kx))), (19, .int vx), (18, .int (nI px)), (17, .int (handle (sE M) kx)), (16, .int (nI ox)), (15, .int (nI kx)), (14, .int (nI kd9)), (13, .int z), (12, .int x), (11, .int (nI k)), (10, .ref (g + 9)), (9, .ref (g + 8)), (8, .ref (g + 7)), (7, .ref (g + 6)), (6, .ref (g + 5)), (5, .ref (g + 4)), (4, .ref (g + 3)), (3, .ref (g + 2)), (2, .ref (g + 1)), (1, .ref b0), (0, .ref b)]) hx hb dL_law_1381 hl (by decide) rfl (fun ls hl => ?_)
    obtain ⟨j9, hj9⟩ : ∃ q, q = j1 := ⟨_, rfl⟩
    have hjq : j9 < (sQ M).1 := by rw [hj9]; exact hj1
    have hl : lv_has ls 26 [(22, .int (nI j9)), (21, .int (bI hv)), (20, .int (bI (mAl (sE M) kx))), (19, .int vx), (18, .int (nI px)), (17, .int (handle (sE M) kx)), (16, .int (nI ox)), (15, .int (nI kx)), (14, .int (nI kd9)), (13, .int z), (12, .int x), (11, .int (nI k)), (10, .ref (g + 9)), (9, .ref (g + 8)), (8, .ref (g + 7)), (7, .ref (g + 6)), (6, .ref (g + 5)), (5, .ref (g + 4)), (4, .ref (g + 3)), (3, .ref (g + 2)), (2, .ref (g + 1)), (1, .ref b0), (0, .ref b)] := by
      have e9 : (nI j1) = (nI j9) := by rw [hj9]
      first
        | (rw [← e9]; exact hl)
        | (rw [e9] at hl; exact hl)
    refine lv_aload hx hb dL_law_1383 (lv_at hl 12 rfl) ?_
    refine lv_iconst (v := nI 2) hx hb dL_law_1385 (by decide) ?_
    refine n_ld9 (i := 2) hx hb hK hL (by omega) dL_law_1386 ?_
    refine x_top (y := (nI ((sQ M).1))) (hR.2.1.1) ?_
    refine y_if_eq hx hb (by omega) (tgt := 1398) dL_law_1387 (by decide) (fun c1387 => ?_) (fun c1387 => ?_)
    · omega
    · refine lv_aload hx hb dL_law_1390 (lv_at hl 12 rfl) ?_
      refine lv_iconst (v := nI 4) hx hb dL_law_1392 (by decide) ?_
      refine n_ld9 (i := 4) hx hb hK hL (by omega) dL_law_1393 ?_
      refine x_top (y := (bI (wOn (sW M)))) (hR.2.2.2.2.1) ?_
      refine lv_iconst (v := nI 1) hx hb dL_law_1394 (by decide) ?_
      refine lv_icmp_ne (tgt := 1424) hx hb dL_law_1395 (by decide) (fun c1395 => ?_) (fun c1395 => ?_)
      · have hoff := bI_n1 c1395
        refine lv_aload hx hb dL_law_1424 (lv_at hl 12 rfl) ?_
        refine lv_iconst (v := nI 4) hx hb dL_law_1426 (by decide) ?_
        refine lv_iconst (v := nI 1) hx hb dL_law_1427 (by decide) ?_
        refine n_st9 (i := 4) (v := (nI 1)) hx hb hK hS hL hAS (by omega) dL_law_1428 (fun H2 locs2 hL hz2 hq2 hS => ?_)
        have hPK := hPK.w hL (Nat.le_of_eq hz2.symm) (fun q _ zz => hq2 q zz)
        obtain ⟨Y2, hPK, hL, hY2⟩ : ∃ Yn, PK D T dE b0 (fun q : Nat => s.heap.size ≤ q) g Yn M H2 ∧ SL T g Yn H2 ∧ Yn = up2 Y 9 (upd (Y 9) 4 (nI 1)) := ⟨_, hPK, hL, rfl⟩
        refine lv_aload hx hb dL_law_1429 (lv_at hl 12 rfl) ?_
        refine lv_iconst (v := nI 5) hx hb dL_law_1431 (by decide) ?_
        refine lv_iconst (v := nI 0) hx hb dL_law_1432 (by decide) ?_
        refine n_st9 (i := 5) (v := (nI 0)) hx hb hK hS hL hAS (by omega) dL_law_1433 (fun H3 locs3 hL hz3 hq3 hS => ?_)
        have hPK := hPK.w hL (Nat.le_of_eq hz3.symm) (fun q _ zz => hq3 q zz)
        obtain ⟨Y3, hPK, hL, hY3⟩ : ∃ Yn, PK D T dE b0 (fun q : Nat => s.heap.size ≤ q) g Yn M H3 ∧ SL T g Yn H3 ∧ Yn = up2 Y2 9 (upd (Y2 9) 5 (nI 0)) := ⟨_, hPK, hL, rfl⟩
        refine lv_aload hx hb dL_law_1434 (lv_at hl 12 rfl) ?_
        refine lv_bipush (v := nI 6) hx hb dL_law_1436 (by decide) ?_
        refine lv_iconst (v := nI 0) hx hb dL_law_1438 (by decide) ?_
        refine n_st9 (i := 6) (v := (nI 0)) hx hb hK hS hL hAS (by omega) dL_law_1439 (fun H4 locs4 hL hz4 hq4 hS => ?_)
        have hPK := hPK.w hL (Nat.le_of_eq hz4.symm) (fun q _ zz => hq4 q zz)
        obtain ⟨Y4, hPK, hL, hY4⟩ : ∃ Yn, PK D T dE b0 (fun q : Nat => s.heap.size ≤ q) g Yn M H4 ∧ SL T g Yn H4 ∧ Yn = up2 Y3 9 (upd (Y3 9) 6 (nI 0)) := ⟨_, hPK, hL, rfl⟩
        refine lv_aload hx hb dL_law_1440 (lv_at hl 12 rfl) ?_
        refine lv_bipush (v := nI 7) hx hb dL_law_1442 (by decide) ?_
        refine lv_iconst (v := nI 0) hx hb dL_law_1444 (by decide) ?_
        refine n_st9 (i := 7) (v := (nI 0)) hx hb hK hS hL hAS (by omega) dL_law_1445 (fun H5 locs5 hL hz5 hq5 hS => ?_)
        have hPK := hPK.w hL (Nat.le_of_eq hz5.symm) (fun q _ zz => hq5 q zz)
        obtain ⟨Y5, hPK, hL, hY5⟩ : ∃ Yn, PK D T dE b0 (fun q : Nat => s.heap.size ≤ q) g Yn M H5 ∧ SL T g Yn H5 ∧ Yn = up2 Y4 9 (upd (Y4 9) 7 (nI 0)) := ⟨_, hPK, hL, rfl⟩
        obtain ⟨Yb, hYb⟩ : ∃ Yb, Yb = Y5 := ⟨_, rfl⟩
        have hb1 : ∀ j, j ≠ 9 → Yb j = Y j := fun j hj => by rw [hYb, hY5, hY4, hY3, hY2]; simp only [up2, if_neg hj]
        have hb2 : ∀ i, i < 4 → Yb 9 i = Y 9 i := fun i hi => by rw [hYb, hY5, hY4, hY3, hY2]; exact (upd_n (by omega)).trans ((upd_n (by omega)).trans ((upd_n (by omega)).trans (upd_n (by omega))))
        have hb4 : Yb 9 4 = nI 1 := by rw [hYb, hY5, hY4, hY3, hY2]; rfl
        have hb5 : Yb 9 5 = nI 0 := by rw [hYb, hY5, hY4, hY3]; rfl
        have hb6 : Yb 9 6 = nI 0 := by rw [hYb, hY5, hY4]; rfl
        have hb7 : Yb 9 7 = nI 0 := by rw [hYb, hY5]; rfl
        have hA10 := aN_10 (Q := sQ M) iE iR h10 j9
        refine lv_iconst (v := nI 0) hx hb dL_law_1446 (by decide) ?_
        refine lv_istore (lv' := [(23, .int (nI 0)), (22, .int (nI j9)), (21, .int (bI hv)), (20, .int (bI (mAl (sE M) kx))), (19, .int vx), (18, .int (nI px)), (17, .int (handle (sE M) kx)), (16, .int (nI ox)), (15, .int (nI kx)), (14, .int (nI kd9)), (13, .int z), (12, .int x), (11, .int (nI k)), (10, .ref (g + 9)), (9, .ref (g + 8)), (8, .ref (g + 7)), (7, .ref (g + 6)), (6, .ref (g + 5)), (5, .ref (g + 4)), (4, .ref (g + 3)), (3, .ref (g + 2)), (2, .ref (g + 1)), (1, .ref b0), (0, .ref b)]) hx hb dL_law_1447 hl (by decide) rfl (fun ls hl => ?_)
        have loop1449 : ∀ (n : Nat) (n8 : Nat) (Y9 : Nat → Nat → Int32) (H9 : Heap) (locs9 : List Loc), rN (sR M) - n8 < n → (n8 ≤ rN (sR M)) → (PK D T dE b0 (fun q : Nat => s.heap.size ≤ q) g Y9 M H9) → (va_S (fun q : Nat => s.heap.size ≤ q) s.heap H9 locs9) → (WI (sE M) (fun p => (aP (sQ M) (sR M) j9 p).getD 0) Yb Y9 (aTo (sQ M) (sR M) j9 n8)) → ∀ (ls : Array Slot), lv_has ls 26 [(23, .int (nI n8)), (22, .int (nI j9)), (21, .int (bI hv)), (20, .int (bI (mAl (sE M) kx))), (19, .int vx), (18, .int (nI px)), (17, .int (handle (sE M) kx)), (16, .int (nI ox)), (15, .int (nI kx)), (14, .int (nI kd9)), (13, .int z), (12, .int x), (11, .int (nI k)), (10, .ref (g + 9)), (9, .ref (g + 8)), (8, .ref (g + 7)), (7, .ref (g + 6)), (6, .ref (g + 5)), (5, .ref (g + 4)), (4, .ref (g + 3)), (3, .ref (g + 2)), (2, .ref (g + 1)), (1, .ref b0), (0, .ref b)] → W p l e room_1 s m #[Value.ref b] below meth c H9 locs9 (200 + 4400 * k) (5000 + 50000 * k) Q (F0 m 1449 ls []) := by
          intro n
          induction n with
          | zero => intro n8 Y9 H9 locs9 hfuel; exact absurd hfuel (Nat.not_lt_zero _)
          | succ n ih1449 =>
            intro n8 Y9 H9 locs9 hfuel hn8 hPK hS hw9 ls hl
            have hL := hPK.sl
            refine lv_iload hx hb dL_law_1449 (lv_at hl 0 rfl) ?_
            refine lv_aload hx hb dL_law_1451 (lv_at hl 13 rfl) ?_
            refine lv_iconst (v := nI 0) hx hb dL_law_1453 (by decide) ?_
            refine n_ld9 (i := 0) hx hb hK hL (by omega) dL_law_1454 ?_
            refine x_top (y := (nI (rN (sR M)))) (by rw [hw9.2.2.1 0 (by decide), hb2 0 (by decide)]; exact hT.2.1.1) ?_
            refine y_icmp_ge hx hb (by omega) (by omega) (tgt := 1528) dL_law_1455 (by decide) (fun c1455 => ?_) (fun c1455 => ?_)
            · have hnr : n8 = rN (sR M) := by omega
              have hAt : aTo (sQ M) (sR M) j9 n8 = aN (sQ M) (sR M) j9 := by rw [hnr]; rfl
              refine lv_aload_n hx hb dL_law_1528 rfl (lv_at hl 22 rfl) ?_
              refine lv_iload hx hb dL_law_1529 (lv_at hl 1 rfl) ?_
              refine k_iN (k_V (As := [.int (nI j9)]) (rest := []) ⟨hx, hb, hml, hown, hts⟩ hev hS (w_walk l hst hPK hI (nI j9) (by rw [wk_0 hjq hq8 hoff])) (cwV 1 hts gL_law_X6_walk rfl rfl rfl (by decide +kernel) ⟨Nat.le_of_ble_eq_true rfl, Nat.le_of_ble_eq_true rfl⟩) (pk_recv hK hPK) rfl hl.1 (Nat.le_of_ble_eq_true rfl) dL_law_1531 (by show _ ≤ (704995 : Nat); omega) (by show _ ≤ (6986640 : Nat); omega)) hS (fun rq6_ H6 locs6 hP hz6 hS => ?_)
              rw [wk_0 hjq hq8 hoff] at hP
              have er := hP.1
              have hPK := hP.2
              have hL := hPK.sl
              refine x_top (y := (nI (aN (sQ M) (sR M) j9))) (er) ?_
              have hI8 : Inv (800 * (k + 1)) (wW M (true, (aN (sQ M) (sR M) j9, fun p => (aP (sQ M) (sR M) j9 p).getD 0, 0), mC0)) := by have := i_walk hI (nI j9); rw [wk_0 hjq hq8 hoff] at this; exact this.mono (by omega) (by omega)
              have hR8 : LRel Y9 (wW M (true, (aN (sQ M) (sR M) j9, fun p => (aP (sQ M) (sR M) j9 p).getD 0, 0), mC0)) := ⟨hT.same (by rw [hw9.1 1 (by decide) (by decide), hb1 1 (by decide)]) (by rw [hw9.1 2 (by decide) (by decide), hb1 2 (by decide)]) (by rw [hw9.1 3 (by decide) (by decide), hb1 3 (by decide)]) (by rw [hw9.1 4 (by decide) (by decide), hb1 4 (by decide)]) (by rw [hw9.2.2.1 0 (by decide), hb2 0 (by decide)]), hR.2.1.same (by rw [hw9.1 5 (by decide) (by decide), hb1 5 (by decide)]) (by rw [hw9.2.2.1 2 (by decide), hb2 2 (by decide)]), hR.2.2.1.same (by rw [hw9.1 6 (by decide) (by decide), hb1 6 (by decide)]) (by rw [hw9.2.2.1 3 (by decide), hb2 3 (by decide)]), by rw [hw9.2.2.1 1 (by decide), hb2 1 (by decide)]; exact hR.2.2.2.1, ⟨by rw [hw9.2.2.1 4 (by decide), hb4]; rfl, fun _ => ⟨by rw [hw9.2.2.1 5 (by decide), hb5]; rfl, hw9.2.1.trans (congrArg nI hAt), by rw [hw9.2.2.1 7 (by decide), hb7]; rfl, Nat.zero_le _, hA10, fun i hi => hw9.2.2.2 i (by rw [hAt]; exact hi), fun i hi => absurd hi (Nat.not_lt_zero i)⟩⟩⟩
              refine lv_aload hx hb dL_law_1534 (lv_at hl 13 rfl) ?_
              refine lv_bipush (v := nI 6) hx hb dL_law_1536 (by decide) ?_
              refine n_ld9 (i := 6) hx hb hK hL (by omega) dL_law_1538 ?_
              refine x_top (y := (nI (aN (sQ M) (sR M) j9))) (hw9.2.1.trans (congrArg nI hAt)) ?_
              refine y_icmp_eq hx hb (by omega) (by omega) (tgt := 1544) dL_law_1539 (by decide) (fun c1539 => ?_) (fun c1539 => ?_)
              · refine lv_goto (tgt := 1955) hx hb dL_law_1544 (by decide) ?_
                refine W.widen (k := 200 + 4400 * k + 300) (n := 5000 + 50000 * k + 5400) (by omega) (by omega) ?_
                exact hchk _ _ _ _ ls hPK hR8 hI8 hS (lv_sub hl [12, 13, 14, 15, 16, 17, 18, 19, 20, 21, 22, 23] rfl)
              · exact absurd rfl c1539
            · have hz32 := ok.z c1455
              have hmany := hT.2.2.many ok hT.1.1 h10 c1455
              have hAle : aTo (sQ M) (sR M) j9 n8 ≤ aN (sQ M) (sR M) j9 := aTo_le2 (by omega)
              rcases Bool.eq_false_or_eq_true (ansQ (sQ M) j9 (rS (sR M) n8)) with hans | hans
              · have hAt1 : aTo (sQ M) (sR M) j9 n8 + rZ (sR M) n8 ≤ aN (sQ M) (sR M) j9 := by rw [← aTo_t hans]; exact aTo_le2 (by omega)
                refine lv_iconst (v := nI 0) hx hb dL_law_1458 (by decide) ?_
                refine lv_istore (lv' := [(24, .int (nI 0)), (23, .int (nI n8)), (22, .int (nI j9)), (21, .int (bI hv)), (20, .int (bI (mAl (sE M) kx))), (19, .int vx), (18, .int (nI px)), (17, .int (handle (sE M) kx)), (16, .int (nI ox)), (15, .int (nI kx)), (14, .int (nI kd9)), (13, .int z), (12, .int x), (11, .int (nI k)), (10, .ref (g + 9)), (9, .ref (g + 8)), (8, .ref (g + 7)), (7, .ref (g + 6)), (6, .ref (g + 5)), (5, .ref (g + 4)), (4, .ref (g + 3)), (3, .ref (g + 2)), (2, .ref (g + 1)), (1, .ref b0), (0, .ref b)]) hx hb dL_law_1459 hl (by decide) rfl (fun ls hl => ?_)
                have loop1461 : ∀ (n : Nat) (p9 : Nat) (Y8 : Nat → Nat → Int32) (H8 : Heap) (locs8 : List Loc), rZ (sR M) n8 - p9 < n → (p9 ≤ rZ (sR M) n8) → (PK D T dE b0 (fun q : Nat => s.heap.size ≤ q) g Y8 M H8) → (va_S (fun q : Nat => s.heap.size ≤ q) s.heap H8 locs8) → (WI (sE M) (fun p => (aP (sQ M) (sR M) j9 p).getD 0) Yb Y8 (aTo (sQ M) (sR M) j9 n8 + p9)) → ∀ (ls : Array Slot), lv_has ls 26 [(24, .int (nI p9)), (23, .int (nI n8)), (22, .int (nI j9)), (21, .int (bI hv)), (20, .int (bI (mAl (sE M) kx))), (19, .int vx), (18, .int (nI px)), (17, .int (handle (sE M) kx)), (16, .int (nI ox)), (15, .int (nI kx)), (14, .int (nI kd9)), (13, .int z), (12, .int x), (11, .int (nI k)), (10, .ref (g + 9)), (9, .ref (g + 8)), (8, .ref (g + 7)), (7, .ref (g + 6)), (6, .ref (g + 5)), (5, .ref (g + 4)), (4, .ref (g + 3)), (3, .ref (g + 2)), (2, .ref (g + 1)), (1, .ref b0), (0, .ref b)] → W p l e room_1 s m #[Value.ref b] below meth c H8 locs8 (200 + 4400 * k) (5000 + 50000 * k) Q (F0 m 1461 ls []) := by
                  intro n
                  induction n with
                  | zero => intro p9 Y8 H8 locs8 hfuel; exact absurd hfuel (Nat.not_lt_zero _)
                  | succ n ih1461 =>
                    intro p9 Y8 H8 locs8 hfuel hp9 hPK hS hw8 ls hl
                    have hL := hPK.sl
                    refine lv_iload hx hb dL_law_1461 (lv_at hl 0 rfl) ?_
                    refine lv_iload hx hb dL_law_1463 (lv_at hl 1 rfl) ?_
                    refine lv_aload_n hx hb dL_law_1465 rfl (lv_at hl 22 rfl) ?_
                    refine k_iN (k_S (As := [.int (nI n8), .ref (g + 1)]) (rest := [.int (nI p9)]) ⟨hx, hb, hml, hown, hts⟩ hev hS (c_L_many l hL (nI n8)) (va_cwS 2 hts gL_law_L_many rfl rfl rfl (by decide +kernel) ⟨Nat.le_of_ble_eq_true rfl, Nat.le_of_ble_eq_true rfl⟩) rfl hl.1 (Nat.le_of_ble_eq_true rfl) dL_law_1466 (by show _ ≤ (704995 : Nat); omega) (by show _ ≤ (6986640 : Nat); omega)) hS (fun rq7_ H7 locs7 hP hz7 hS => ?_)
                    refine W.widen (k := 200 + 4400 * k) (n := 5000 + 50000 * k) (Nat.le_refl _) (Nat.le_refl _) ?_
                    have hPK : PK D T dE b0 (fun q : Nat => s.heap.size ≤ q) g Y8 M H7 := by rw [hP.1]; exact hPK
                    have hL := hPK.sl
                    refine x_top (y := (nI (rZ (sR M) n8))) (by rw [hP.2, hw8.1 1 (by decide) (by decide), hb1 1 (by decide)]; exact congrArg nI hmany) ?_
                    refine y_icmp_ge hx hb (by omega) (by omega) (tgt := 1522) dL_law_1469 (by decide) (fun c1469 => ?_) (fun c1469 => ?_)
                    · have ea := aTo_t (Q := sQ M) hans
                      have hpz : p9 = rZ (sR M) n8 := by omega
                      have hw6 := hw8
                      rw [hpz, ← ea] at hw6
                      refine lv_iinc (v := (nI (n8 + 1))) (lv' := [(23, .int (nI (n8 + 1))), (24, .int (nI p9)), (22, .int (nI j9)), (21, .int (bI hv)), (20, .int (bI (mAl (sE M) kx))), (19, .int vx), (18, .int (nI px)), (17, .int (handle (sE M) kx)), (16, .int (nI ox)), (15, .int (nI kx)), (14, .int (nI kd9)), (13, .int z), (12, .int x), (11, .int (nI k)), (10, .ref (g + 9)), (9, .ref (g + 8)), (8, .ref (g + 7)), (7, .ref (g + 6)), (6, .ref (g + 5)), (5, .ref (g + 4)), (4, .ref (g + 3)), (3, .ref (g + 2)), (2, .ref (g + 1)), (1, .ref b0), (0, .ref b)]) hx hb dL_law_1522 hl (k := 1) rfl (nI_inc _) (by decide) rfl (fun ls hl => ?_)
                      refine lv_goto (tgt := 1449) hx hb dL_law_1525 (by decide) ?_
                      exact ih1449 (n8 + 1) Y8 H7 locs7 (by omega) (by omega) hPK hS hw6 ls (lv_sub hl [0, 2, 3, 4, 5, 6, 7, 8, 9, 10, 11, 12, 13, 14, 15, 16, 17, 18, 19, 20, 21, 22, 23, 24] rfl)
                    · have hkal := hT.2.2.2.1 n8 p9 c1455 c1469
                      have hk10 := h10 _ hkal
                      have haP := aP_at (Q := sQ M) c1455 hans c1469
                      refine lv_aload hx hb dL_law_1472 (lv_at hl 19 rfl) ?_
                      refine lv_iload hx hb dL_law_1474 (lv_at hl 1 rfl) ?_
                      refine n_ld4 (i := n8) hx hb hK hL (by omega) dL_law_1476 ?_
                      refine x_top (y := (nI (rS (sR M) n8))) (by rw [hw8.1 4 (by decide) (by decide), hb1 4 (by decide)]; exact hT.2.1.2 n8 c1455) ?_
                      have hs64 := iR.1 n8 c1455
                      refine lv_iload hx hb dL_law_1477 (lv_at hl 2 rfl) ?_
                      refine lv_aload hx hb dL_law_1479 (lv_at hl 18 rfl) ?_
                      refine k_iN (k_S (As := [.int (nI (rS (sR M) n8)), .int (nI j9), .ref (g + 5)]) (rest := []) ⟨hx, hb, hml, hown, hts⟩ hev hS (c_L_answers l hL (hR.2.1.same (by rw [hw8.1 5 (by decide) (by decide), hb1 5 (by decide)]) (by rw [hw8.2.2.1 2 (by decide), hb2 2 (by decide)])) iQ hs64 hjq) (va_cwS 3 hts gL_law_L_answers rfl rfl rfl (by decide +kernel) ⟨Nat.le_of_ble_eq_true rfl, Nat.le_of_ble_eq_true rfl⟩) rfl hl.1 (Nat.le_of_ble_eq_true rfl) dL_law_1481 (by show _ ≤ (704995 : Nat); omega) (by show _ ≤ (6986640 : Nat); omega)) hS (fun rq8_ H8 locs8 hP hz8 hS => ?_)
                      refine W.widen (k := 200 + 4400 * k) (n := 5000 + 50000 * k) (Nat.le_refl _) (Nat.le_refl _) ?_
                      have hPK : PK D T dE b0 (fun q : Nat => s.heap.size ≤ q) g Y8 M H8 := by rw [hP.1]; exact hPK
                      have hL := hPK.sl
                      refine x_top (y := (bI (ansQ (sQ M) j9 (rS (sR M) n8)))) (hP.2) ?_
                      refine y_bif_eq hx hb (tgt := 1522) dL_law_1484 (by decide) (fun c1484 => ?_) (fun c1484 => ?_)
                      · exact absurd hans (by rw [c1484]; decide)
                      · refine lv_aload hx hb dL_law_1487 (lv_at hl 16 rfl) ?_
                        refine lv_aload hx hb dL_law_1489 (lv_at hl 14 rfl) ?_
                        refine lv_bipush (v := nI 6) hx hb dL_law_1491 (by decide) ?_
                        refine n_ld9 (i := 6) hx hb hK hL (by omega) dL_law_1493 ?_
                        refine x_top (y := (nI (aTo (sQ M) (sR M) j9 n8 + p9))) (hw8.2.1) ?_
                        refine lv_iload hx hb dL_law_1494 (lv_at hl 1 rfl) ?_
                        refine lv_iload hx hb dL_law_1496 (lv_at hl 0 rfl) ?_
                        refine lv_aload_n hx hb dL_law_1498 rfl (lv_at hl 22 rfl) ?_
                        refine k_iN (k_S (As := [.int (nI n8), .int (nI p9), .ref (g + 1)]) (rest := [.int (nI (aTo (sQ M) (sR M) j9 n8 + p9)), .ref (g + 7)]) ⟨hx, hb, hml, hown, hts⟩ hev hS (c_L_at l hL (nI n8) (nI p9)) (va_cwS 3 hts gL_law_L_at rfl rfl rfl (by decide +kernel) ⟨Nat.le_of_ble_eq_true rfl, Nat.le_of_ble_eq_true rfl⟩) rfl hl.1 (Nat.le_of_ble_eq_true rfl) dL_law_1499 (by show _ ≤ (704995 : Nat); omega) (by show _ ≤ (6986640 : Nat); omega)) hS (fun rq9_ H9 locs9 hP hz9 hS => ?_)
                        refine W.widen (k := 200 + 4400 * k) (n := 5000 + 50000 * k) (Nat.le_refl _) (Nat.le_refl _) ?_
                        have hPK : PK D T dE b0 (fun q : Nat => s.heap.size ≤ q) g Y8 M H9 := by rw [hP.1]; exact hPK
                        have hL := hPK.sl
                        obtain ⟨-, o9, eo, ho⟩ := hP
                        have e81 : Y8 1 = Y 1 := by rw [hw8.1 1 (by decide) (by decide), hb1 1 (by decide)]
                        rw [e81] at ho
                        refine x_top (y := (nI (rM (sR M) n8 p9))) (by rw [eo, hT.2.2.at ok hT.1.1 h10 c1455 c1469 ho]; rfl) ?_
                        refine lv_aload_n hx hb dL_law_1502 rfl (lv_at hl 22 rfl) ?_
                        refine k_iN (k_S (As := [.int (nI (rM (sR M) n8 p9)), .ref (g + 1)]) (rest := [.int (nI (aTo (sQ M) (sR M) j9 n8 + p9)), .ref (g + 7)]) ⟨hx, hb, hml, hown, hts⟩ hev hS (c_L_handle l hL (hT.1.same e81 (by rw [hw8.1 2 (by decide) (by decide), hb1 2 (by decide)]) (by rw [hw8.1 3 (by decide) (by decide), hb1 3 (by decide)])) hk10) (va_cwS 2 hts gL_law_L_handle rfl rfl rfl (by decide +kernel) ⟨Nat.le_of_ble_eq_true rfl, Nat.le_of_ble_eq_true rfl⟩) rfl hl.1 (Nat.le_of_ble_eq_true rfl) dL_law_1503 (by show _ ≤ (704995 : Nat); omega) (by show _ ≤ (6986640 : Nat); omega)) hS (fun rq10_ H10 locs10 hP hz10 hS => ?_)
                        refine W.widen (k := 200 + 4400 * k) (n := 5000 + 50000 * k) (Nat.le_refl _) (Nat.le_refl _) ?_
                        have hPK : PK D T dE b0 (fun q : Nat => s.heap.size ≤ q) g Y8 M H10 := by rw [hP.1]; exact hPK
                        have hL := hPK.sl
                        refine x_top (y := (handle (sE M) (rM (sR M) n8 p9))) (hP.2) ?_
                        refine n_st7 (i := aTo (sQ M) (sR M) j9 n8 + p9) (v := (handle (sE M) (rM (sR M) n8 p9))) hx hb hK hS hL hAS (by omega) dL_law_1506 (fun H11 locs11 hL hz11 hq11 hS => ?_)
                        have hPK := hPK.w hL (Nat.le_of_eq hz11.symm) (fun q _ zz => hq11 q zz)
                        obtain ⟨Y11, hPK, hL, hY11⟩ : ∃ Yn, PK D T dE b0 (fun q : Nat => s.heap.size ≤ q) g Yn M H11 ∧ SL T g Yn H11 ∧ Yn = up2 Y8 7 (upd (Y8 7) (aTo (sQ M) (sR M) j9 n8 + p9) (handle (sE M) (rM (sR M) n8 p9))) := ⟨_, hPK, hL, rfl⟩
                        refine lv_aload hx hb dL_law_1507 (lv_at hl 14 rfl) ?_
                        refine lv_bipush (v := nI 6) hx hb dL_law_1509 (by decide) ?_
                        refine lv_dup2_11 hx hb dL_law_1511 rfl rfl ?_
                        refine n_ld9 (i := 6) hx hb hK hL (by omega) dL_law_1512 ?_
                        refine x_top (y := (nI (aTo (sQ M) (sR M) j9 n8 + p9))) (by rw [hY11]; exact hw8.2.1) ?_
                        refine lv_iconst (v := nI 1) hx hb dL_law_1513 (by decide) ?_
                        refine y_iadd hx hb dL_law_1514 ?_
                        refine n_st9 (i := 6) (v := (nI ((aTo (sQ M) (sR M) j9 n8 + p9) + 1))) hx hb hK hS hL hAS (by omega) dL_law_1515 (fun H12 locs12 hL hz12 hq12 hS => ?_)
                        have hPK := hPK.w hL (Nat.le_of_eq hz12.symm) (fun q _ zz => hq12 q zz)
                        obtain ⟨Y12, hPK, hL, hY12⟩ : ∃ Yn, PK D T dE b0 (fun q : Nat => s.heap.size ≤ q) g Yn M H12 ∧ SL T g Yn H12 ∧ Yn = up2 Y11 9 (upd (Y11 9) 6 (nI ((aTo (sQ M) (sR M) j9 n8 + p9) + 1))) := ⟨_, hPK, hL, rfl⟩
                        have hw7 : WI (sE M) (fun p => (aP (sQ M) (sR M) j9 p).getD 0) Yb Y12 (aTo (sQ M) (sR M) j9 n8 + p9 + 1) := WI.add hw8 (by rw [hY12, hY11, haP.2])
                        refine lv_iinc (v := (nI (p9 + 1))) (lv' := [(24, .int (nI (p9 + 1))), (23, .int (nI n8)), (22, .int (nI j9)), (21, .int (bI hv)), (20, .int (bI (mAl (sE M) kx))), (19, .int vx), (18, .int (nI px)), (17, .int (handle (sE M) kx)), (16, .int (nI ox)), (15, .int (nI kx)), (14, .int (nI kd9)), (13, .int z), (12, .int x), (11, .int (nI k)), (10, .ref (g + 9)), (9, .ref (g + 8)), (8, .ref (g + 7)), (7, .ref (g + 6)), (6, .ref (g + 5)), (5, .ref (g + 4)), (4, .ref (g + 3)), (3, .ref (g + 2)), (2, .ref (g + 1)), (1, .ref b0), (0, .ref b)]) hx hb dL_law_1516 hl (k := 0) rfl (nI_inc _) (by decide) rfl (fun ls hl => ?_)
                        refine lv_goto (tgt := 1461) hx hb dL_law_1519 (by decide) ?_
                        exact ih1461 (p9 + 1) Y12 H12 locs12 (by omega) (by omega) hPK hS hw7 ls (lv_sub hl [0, 1, 2, 3, 4, 5, 6, 7, 8, 9, 10, 11, 12, 13, 14, 15, 16, 17, 18, 19, 20, 21, 22, 23, 24] rfl)
                exact loop1461 ((rZ (sR M) n8 - 0) + 1) 0 Y9 H9 locs9 (Nat.lt_succ_self _) (Nat.zero_le _) hPK hS hw9 ls (lv_sub hl [0, 1, 2, 3, 4, 5, 6, 7, 8, 9, 10, 11, 12, 13, 14, 15, 16, 17, 18, 19, 20, 21, 22, 23, 24] rfl)
              · refine lv_iconst (v := nI 0) hx hb dL_law_1458 (by decide) ?_
                refine lv_istore (lv' := [(24, .int (nI 0)), (23, .int (nI n8)), (22, .int (nI j9)), (21, .int (bI hv)), (20, .int (bI (mAl (sE M) kx))), (19, .int vx), (18, .int (nI px)), (17, .int (handle (sE M) kx)), (16, .int (nI ox)), (15, .int (nI kx)), (14, .int (nI kd9)), (13, .int z), (12, .int x), (11, .int (nI k)), (10, .ref (g + 9)), (9, .ref (g + 8)), (8, .ref (g + 7)), (7, .ref (g + 6)), (6, .ref (g + 5)), (5, .ref (g + 4)), (4, .ref (g + 3)), (3, .ref (g + 2)), (2, .ref (g + 1)), (1, .ref b0), (0, .ref b)]) hx hb dL_law_1459 hl (by decide) rfl (fun ls hl => ?_)
                refine lv_iload hx hb dL_law_1461 (lv_at hl 0 rfl) ?_
                refine lv_iload hx hb dL_law_1463 (lv_at hl 1 rfl) ?_
                refine lv_aload_n hx hb dL_law_1465 rfl (lv_at hl 22 rfl) ?_
                refine k_iN (k_S (As := [.int (nI n8), .ref (g + 1)]) (rest := [.int (nI 0)]) ⟨hx, hb, hml, hown, hts⟩ hev hS (c_L_many l hL (nI n8)) (va_cwS 2 hts gL_law_L_many rfl rfl rfl (by decide +kernel) ⟨Nat.le_of_ble_eq_true rfl, Nat.le_of_ble_eq_true rfl⟩) rfl hl.1 (Nat.le_of_ble_eq_true rfl) dL_law_1466 (by show _ ≤ (704995 : Nat); omega) (by show _ ≤ (6986640 : Nat); omega)) hS (fun rq13_ H13 locs13 hP hz13 hS => ?_)
                refine W.widen (k := 200 + 4400 * k) (n := 5000 + 50000 * k) (Nat.le_refl _) (Nat.le_refl _) ?_
                have hPK : PK D T dE b0 (fun q : Nat => s.heap.size ≤ q) g Y9 M H13 := by rw [hP.1]; exact hPK
                have hL := hPK.sl
                refine x_top (y := (nI (rZ (sR M) n8))) (by rw [hP.2, hw9.1 1 (by decide) (by decide), hb1 1 (by decide)]; exact congrArg nI hmany) ?_
                refine y_icmp_ge hx hb (Nat.le_of_ble_eq_true rfl) (by omega) (tgt := 1522) dL_law_1469 (by decide) (fun c1469 => ?_) (fun c1469 => ?_)
                · have ea := aTo_f (Q := sQ M) hans
                  have hw6 := hw9
                  rw [← ea] at hw6
                  refine lv_iinc (v := (nI (n8 + 1))) (lv' := [(23, .int (nI (n8 + 1))), (24, .int (nI 0)), (22, .int (nI j9)), (21, .int (bI hv)), (20, .int (bI (mAl (sE M) kx))), (19, .int vx), (18, .int (nI px)), (17, .int (handle (sE M) kx)), (16, .int (nI ox)), (15, .int (nI kx)), (14, .int (nI kd9)), (13, .int z), (12, .int x), (11, .int (nI k)), (10, .ref (g + 9)), (9, .ref (g + 8)), (8, .ref (g + 7)), (7, .ref (g + 6)), (6, .ref (g + 5)), (5, .ref (g + 4)), (4, .ref (g + 3)), (3, .ref (g + 2)), (2, .ref (g + 1)), (1, .ref b0), (0, .ref b)]) hx hb dL_law_1522 hl (k := 1) rfl (nI_inc _) (by decide) rfl (fun ls hl => ?_)
                  refine lv_goto (tgt := 1449) hx hb dL_law_1525 (by decide) ?_
                  exact ih1449 (n8 + 1) Y9 H13 locs13 (by omega) (by omega) hPK hS hw6 ls (lv_sub hl [0, 2, 3, 4, 5, 6, 7, 8, 9, 10, 11, 12, 13, 14, 15, 16, 17, 18, 19, 20, 21, 22, 23, 24] rfl)
                · refine lv_aload hx hb dL_law_1472 (lv_at hl 19 rfl) ?_
                  refine lv_iload hx hb dL_law_1474 (lv_at hl 1 rfl) ?_
                  refine n_ld4 (i := n8) hx hb hK hL (by omega) dL_law_1476 ?_
                  refine x_top (y := (nI (rS (sR M) n8))) (by rw [hw9.1 4 (by decide) (by decide), hb1 4 (by decide)]; exact hT.2.1.2 n8 c1455) ?_
                  have hs64 := iR.1 n8 c1455
                  refine lv_iload hx hb dL_law_1477 (lv_at hl 2 rfl) ?_
                  refine lv_aload hx hb dL_law_1479 (lv_at hl 18 rfl) ?_
                  refine k_iN (k_S (As := [.int (nI (rS (sR M) n8)), .int (nI j9), .ref (g + 5)]) (rest := []) ⟨hx, hb, hml, hown, hts⟩ hev hS (c_L_answers l hL (hR.2.1.same (by rw [hw9.1 5 (by decide) (by decide), hb1 5 (by decide)]) (by rw [hw9.2.2.1 2 (by decide), hb2 2 (by decide)])) iQ hs64 hjq) (va_cwS 3 hts gL_law_L_answers rfl rfl rfl (by decide +kernel) ⟨Nat.le_of_ble_eq_true rfl, Nat.le_of_ble_eq_true rfl⟩) rfl hl.1 (Nat.le_of_ble_eq_true rfl) dL_law_1481 (by show _ ≤ (704995 : Nat); omega) (by show _ ≤ (6986640 : Nat); omega)) hS (fun rq14_ H14 locs14 hP hz14 hS => ?_)
                  refine W.widen (k := 200 + 4400 * k) (n := 5000 + 50000 * k) (Nat.le_refl _) (Nat.le_refl _) ?_
                  have hPK : PK D T dE b0 (fun q : Nat => s.heap.size ≤ q) g Y9 M H14 := by rw [hP.1]; exact hPK
                  have hL := hPK.sl
                  refine x_top (y := (bI (ansQ (sQ M) j9 (rS (sR M) n8)))) (hP.2) ?_
                  refine y_bif_eq hx hb (tgt := 1522) dL_law_1484 (by decide) (fun c1484 => ?_) (fun c1484 => ?_)
                  · have ea := aTo_f (Q := sQ M) hans
                    have hw6 := hw9
                    rw [← ea] at hw6
                    refine lv_iinc (v := (nI (n8 + 1))) (lv' := [(23, .int (nI (n8 + 1))), (24, .int (nI 0)), (22, .int (nI j9)), (21, .int (bI hv)), (20, .int (bI (mAl (sE M) kx))), (19, .int vx), (18, .int (nI px)), (17, .int (handle (sE M) kx)), (16, .int (nI ox)), (15, .int (nI kx)), (14, .int (nI kd9)), (13, .int z), (12, .int x), (11, .int (nI k)), (10, .ref (g + 9)), (9, .ref (g + 8)), (8, .ref (g + 7)), (7, .ref (g + 6)), (6, .ref (g + 5)), (5, .ref (g + 4)), (4, .ref (g + 3)), (3, .ref (g + 2)), (2, .ref (g + 1)), (1, .ref b0), (0, .ref b)]) hx hb dL_law_1522 hl (k := 1) rfl (nI_inc _) (by decide) rfl (fun ls hl => ?_)
                    refine lv_goto (tgt := 1449) hx hb dL_law_1525 (by decide) ?_
                    exact ih1449 (n8 + 1) Y9 H14 locs14 (by omega) (by omega) hPK hS hw6 ls (lv_sub hl [0, 2, 3, 4, 5, 6, 7, 8, 9, 10, 11, 12, 13, 14, 15, 16, 17, 18, 19, 20, 21, 22, 23, 24] rfl)
                  · exact absurd hans (by rw [c1484]; decide)
        exact loop1449 ((rN (sR M) - 0) + 1) 0 Y5 H5 locs5 (Nat.lt_succ_self _) (Nat.zero_le _) hPK hS ⟨fun j _ _ => by rw [← hYb], by rw [← hYb]; exact hb6, fun i _ => by rw [← hYb], fun i hi => absurd hi (Nat.not_lt_zero i)⟩ ls (lv_sub hl [0, 1, 2, 3, 4, 5, 6, 7, 8, 9, 10, 11, 12, 13, 14, 15, 16, 17, 18, 19, 20, 21, 22, 23] rfl)
      · have hon := bI_e1 c1395
        refine lv_aload_n hx hb dL_law_1398 rfl (lv_at hl 21 rfl) ?_
        refine lv_bipush (v := nI 9) hx hb dL_law_1399 (by decide) ?_
        refine lv_iload hx hb dL_law_1401 (lv_at hl 0 rfl) ?_
        refine lv_iconst (v := nI 0) hx hb dL_law_1403 (by decide) ?_
        refine k_iN (k_SW (As := [.ref b0, .int (nI 9), .int (nI j9), .int (nI 0)]) (rest := []) ⟨hx, hb, hml, hown, hts⟩ hev hS (r_L9 l hst hPK hI (nI j9) (nI 0) (w := 3) (by rw [wk_2 hjq hq8 hon]; show ¬ (2 : Nat) = 0; decide) (by rw [wk_2 hjq hq8 hon]; rfl)) (vx_cwSW 4 hts gL_law_L_refused rfl rfl rfl (by decide +kernel) ⟨Nat.le_of_ble_eq_true rfl, Nat.le_of_ble_eq_true rfl⟩) rfl hl.1 (Nat.le_of_ble_eq_true rfl) dL_law_1404 (by show _ ≤ (704995 : Nat); omega) (by show _ ≤ (6986640 : Nat); omega)) hS (fun rq15_ H15 locs15 hP hz15 hS => ?_)
        have er := hP.1
        have hPK := hP.2
        have hL := hPK.sl
        refine x_top (y := (nI 3)) (er) ?_
        refine lv_aload hx hb dL_law_1407 (lv_at hl 12 rfl) ?_
        refine lv_iconst (v := nI 2) hx hb dL_law_1409 (by decide) ?_
        refine n_ld9 (i := 2) hx hb hK hL (by omega) dL_law_1410 ?_
        refine x_top (y := (nI ((sQ M).1))) (hR.2.1.1) ?_
        refine y_if_ne hx hb (by omega) (tgt := 1418) dL_law_1411 (by decide) (fun c1411 => ?_) (fun c1411 => ?_)
        · refine lv_iconst (v := nI 3) hx hb dL_law_1418 (by decide) ?_
          refine y_icmp_eq hx hb (by decide) (by decide) (tgt := 1986) dL_law_1419 (by decide) (fun c1419 => ?_) (fun c1419 => ?_)
          · refine W.widen (k := 200 + 4400 * (k + 1)) (n := 5000 + 50000 * (k + 1)) (by omega) (by omega) ?_
            exact hnxt _ _ _ _ ls hPK hR (hI.mono (by omega) (by omega)) hS (lv_sub hl [11, 12, 13, 14, 15, 16, 17, 18, 19, 20, 21, 22] rfl)
          · exact absurd c1419 (by decide)
        · omega
  · have hq0 := c1365
    refine lv_iconst (v := nI 0) hx hb dL_law_1368 (by decide) ?_
    refine lv_goto (tgt := 1381) hx hb dL_law_1369 (by decide) ?_
    refine lv_istore (lv' := [(22, .int (nI 0)), (21, .int (bI hv)), (20, .int (bI (mAl (sE M) kx))), (19, .int vx), (18, .int (nI px)), (17, .int (handle (sE M) kx)), (16, .int (nI ox)), (15, .int (nI kx)), (14, .int (nI kd9)), (13, .int z), (12, .int x), (11, .int (nI k)), (10, .ref (g + 9)), (9, .ref (g + 8)), (8, .ref (g + 7)), (7, .ref (g + 6)), (6, .ref (g + 5)), (5, .ref (g + 4)), (4, .ref (g + 3)), (3, .ref (g + 2)), (2, .ref (g + 1)), (1, .ref b0), (0, .ref b)]) hx hb dL_law_1381 hl (by decide) rfl (fun ls hl => ?_)
    refine lv_aload hx hb dL_law_1383 (lv_at hl 12 rfl) ?_
    refine lv_iconst (v := nI 2) hx hb dL_law_1385 (by decide) ?_
    refine n_ld9 (i := 2) hx hb hK hL (by omega) dL_law_1386 ?_
    refine x_top (y := (nI 0)) (hR.2.1.1.trans (congrArg nI hq0)) ?_
    refine y_if_eq hx hb (by decide) (tgt := 1398) dL_law_1387 (by decide) (fun c1387 => ?_) (fun c1387 => ?_)
    · refine lv_aload_n hx hb dL_law_1398 rfl (lv_at hl 21 rfl) ?_
      refine lv_bipush (v := nI 9) hx hb dL_law_1399 (by decide) ?_
      refine lv_iload hx hb dL_law_1401 (lv_at hl 0 rfl) ?_
      refine lv_iconst (v := nI 0) hx hb dL_law_1403 (by decide) ?_
      refine k_iN (k_SW (As := [.ref b0, .int (nI 9), .int (nI 0), .int (nI 0)]) (rest := []) ⟨hx, hb, hml, hown, hts⟩ hev hS (r_L9 l hst hPK hI (nI 0) (nI 0) (w := 4) (by rw [wk_1 hq0]; show ¬ (1 : Nat) = 0; decide) (by rw [wk_1 hq0]; rfl)) (vx_cwSW 4 hts gL_law_L_refused rfl rfl rfl (by decide +kernel) ⟨Nat.le_of_ble_eq_true rfl, Nat.le_of_ble_eq_true rfl⟩) rfl hl.1 (Nat.le_of_ble_eq_true rfl) dL_law_1404 (by show _ ≤ (704995 : Nat); omega) (by show _ ≤ (6986640 : Nat); omega)) hS (fun rq16_ H16 locs16 hP hz16 hS => ?_)
      have er := hP.1
      have hPK := hP.2
      have hL := hPK.sl
      refine x_top (y := (nI 4)) (er) ?_
      refine lv_aload hx hb dL_law_1407 (lv_at hl 12 rfl) ?_
      refine lv_iconst (v := nI 2) hx hb dL_law_1409 (by decide) ?_
      refine n_ld9 (i := 2) hx hb hK hL (by omega) dL_law_1410 ?_
      refine x_top (y := (nI 0)) (hR.2.1.1.trans (congrArg nI hq0)) ?_
      refine y_if_ne hx hb (by decide) (tgt := 1418) dL_law_1411 (by decide) (fun c1411 => ?_) (fun c1411 => ?_)
      · exact absurd c1411 (by decide)
      · refine lv_iconst (v := nI 4) hx hb dL_law_1414 (by decide) ?_
        refine lv_goto (tgt := 1419) hx hb dL_law_1415 (by decide) ?_
        refine y_icmp_eq hx hb (by decide) (by decide) (tgt := 1986) dL_law_1419 (by decide) (fun c1419 => ?_) (fun c1419 => ?_)
        · refine W.widen (k := 200 + 4400 * (k + 1)) (n := 5000 + 50000 * (k + 1)) (by omega) (by omega) ?_
          exact hnxt _ _ _ _ ls hPK hR (hI.mono (by omega) (by omega)) hS (lv_sub hl [11, 12, 13, 14, 15, 16, 17, 18, 19, 20, 21, 22] rfl)
        · exact absurd c1419 (by decide)
    · exact absurd c1387 (by decide)

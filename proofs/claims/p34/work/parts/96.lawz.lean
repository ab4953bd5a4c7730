theorem fi_0 {M : mSt} (hw : wOn (sW M) = true) : oFinish M = (0, nI (doN (sE M) (sR M) (wC (sW M)) (sT M) (wC (sW M)).1).1, ((doN (sE M) (sR M) (wC (sW M)) (sT M) (wC (sW M)).1).2.1, (doN (sE M) (sR M) (wC (sW M)) (sT M) (wC (sW M)).1).2.2, sQ M, (false, (wN (sW M), wA (sW M), wTold (sW M)), wC (sW M)), sY M, sT M)) := if_neg (by rw [hw]; decide)
set_option maxHeartbeats 4000000 in
set_option maxRecDepth 100000 in
theorem law_finish {p : Program} {l : Launch} {e : Env} {s : State} {m : MethodId} {below : List Frame} {meth : Method} {c : Code} {Q : State → Prop} {b : Nat} {D : va_G} {T : Nat → ClassId} {dE mi b0 g : Nat} (hst : l.stackTraces = false) (hx : p.tables.exec = Jvm.exec) (hb : c.code = cL_law) (hml : c.maxLocals = 26) (hown : s.vm.findClass RL = some m.cls) (hts : ∀ w ∈ wsL_law, w.before #[Value.ref b] s = true) (hev : EV D T dE mi (fun q : Nat => s.heap.size ≤ q) s) {k : Nat} (hk : k < 70) {H : Heap} {locs : List Loc} {M : mSt} {Y : Nat → Nat → Int32} (hPK : PK D T dE b0 (fun q : Nat => s.heap.size ≤ q) g Y M H) (hR : LRel Y M) (hI : Inv (800 * k) M) (hS : va_S (fun q : Nat => s.heap.size ≤ q) s.heap H locs) {kx ox px kd9 : Nat} {x z vx : Int32} {hv : Bool} (hkx : kx < 10) (hox : ox < 10) (hpx : px < 6) (hhv : mAl (sE M) kx = true → hv = bitS (mKd (sE M) kx) px) {ls : Array Slot} (hl : lv_has ls 26 [(21, .int (bI hv)), (20, .int (bI (mAl (sE M) kx))), (19, .int vx), (18, .int (nI px)), (17, .int (handle (sE M) kx)), (16, .int (nI ox)), (15, .int (nI kx)), (14, .int (nI kd9)), (13, .int z), (12, .int x), (11, .int (nI k)), (10, .ref (g + 9)), (9, .ref (g + 8)), (8, .ref (g + 7)), (7, .ref (g + 6)), (6, .ref (g + 5)), (5, .ref (g + 4)), (4, .ref (g + 3)), (3, .ref (g + 2)), (2, .ref (g + 1)), (1, .ref b0), (0, .ref b)])
    (hchk : ∀ (H1 : Heap) (locs1 : List Loc) (M1 : mSt) (Y1 : Nat → Nat → Int32) (ls1 : Array Slot), PK D T dE b0 (fun q : Nat => s.heap.size ≤ q) g Y1 M1 H1 → LRel Y1 M1 → Inv (800 * (k + 1)) M1 → va_S (fun q : Nat => s.heap.size ≤ q) s.heap H1 locs1 → lv_has ls1 26 [(11, .int (nI k)), (10, .ref (g + 9)), (9, .ref (g + 8)), (8, .ref (g + 7)), (7, .ref (g + 6)), (6, .ref (g + 5)), (5, .ref (g + 4)), (4, .ref (g + 3)), (3, .ref (g + 2)), (2, .ref (g + 1)), (1, .ref b0), (0, .ref b)] → W p l e room_1 s m #[Value.ref b] below meth c H1 locs1 (200 + 4400 * k + 300) (5000 + 50000 * k + 5400) Q (F0 m 1955 ls1 [])) (hnxt : ∀ (H1 : Heap) (locs1 : List Loc) (M1 : mSt) (Y1 : Nat → Nat → Int32) (ls1 : Array Slot), PK D T dE b0 (fun q : Nat => s.heap.size ≤ q) g Y1 M1 H1 → LRel Y1 M1 → Inv (800 * (k + 1)) M1 → va_S (fun q : Nat => s.heap.size ≤ q) s.heap H1 locs1 → lv_has ls1 26 [(11, .int (nI k)), (10, .ref (g + 9)), (9, .ref (g + 8)), (8, .ref (g + 7)), (7, .ref (g + 6)), (6, .ref (g + 5)), (5, .ref (g + 4)), (4, .ref (g + 3)), (3, .ref (g + 2)), (2, .ref (g + 1)), (1, .ref b0), (0, .ref b)] → W p l e room_1 s m #[Value.ref b] below meth c H1 locs1 (200 + 4400 * (k + 1)) (5000 + 50000 * (k + 1)) Q (F0 m 1986 ls1 [])) (hrtn : ∀ (H1 : Heap) (locs1 : List Loc) (ls1 : Array Slot), va_S (fun q : Nat => s.heap.size ≤ q) s.heap H1 locs1 → W p l e room_1 s m #[Value.ref b] below meth c H1 locs1 (200 + 4400 * (k + 1)) (5000 + 50000 * (k + 1)) Q (F0 m 1848 ls1 [.int (nI 1)])) : W p l e room_1 s m #[Value.ref b] below meth c H locs (200 + 4400 * k) (5000 + 50000 * k) Q (F0 m 1767 ls []) := by
  have hK := hev.1
  have hL := hPK.sl
  have hAS := hPK.as
  have hh := hI.had
  have iE := hI.1
  have iR := hI.2.1
  have hT := hR.1
  have h10 := hT.1.2.2.2.2.1
  have hW := hR.2.2.2.2
  have iW0 := hI.2.2.2.1
  have hca := cnt_le (mAl (sE M)) 10
  refine lv_aload hx hb dL_law_1767 (lv_at hl 11 rfl) ?_
  refine lv_iconst (v := nI 4) hx hb dL_law_1769 (by decide) ?_
  refine n_ld9 (i := 4) hx hb hK hL (by omega) dL_law_1770 ?_
  refine x_top (y := (bI (wOn (sW M)))) (hW.1) ?_
  refine y_bif_ne hx hb (tgt := 1788) dL_law_1771 (by decide) (fun c1771 => ?_) (fun c1771 => ?_)
  · have iW := iW0 c1771
    obtain ⟨w5, w6, w7, w16, w10, wh, wc⟩ := hW.2 c1771
    have wt := iW.2.1
    have hwn32 := iW.1
    refine lv_bipush (v := nI 10) hx hb dL_law_1788 (by decide) ?_
    refine lv_aload_n hx hb dL_law_1790 rfl (lv_at hl 19 rfl) ?_
    refine k_iN (k_S (As := [.ref (g + 1)]) (rest := [.int (nI 10)]) ⟨hx, hb, hml, hown, hts⟩ hev hS (c_L_there l hL hT.1) (va_cwS 1 hts gL_law_L_there rfl rfl rfl (by decide +kernel) ⟨Nat.le_of_ble_eq_true rfl, Nat.le_of_ble_eq_true rfl⟩) rfl hl.1 (Nat.le_of_ble_eq_true rfl) dL_law_1791 (by show _ ≤ (704995 : Nat); omega) (by show _ ≤ (6986640 : Nat); omega)) hS (fun rq1_ H1 locs1 hP hz1 hS => ?_)
    refine W.widen (k := 200 + 4400 * k) (n := 5000 + 50000 * k) (Nat.le_refl _) (Nat.le_refl _) ?_
    have hPK : PK D T dE b0 (fun q : Nat => s.heap.size ≤ q) g Y M H1 := by rw [hP.1]; exact hPK
    have hL := hPK.sl
    refine x_top (y := (nI (cnt (mAl (sE M)) 10))) (hP.2) ?_
    refine y_isub hx hb (by omega) dL_law_1794 ?_
    refine lv_istore (lv' := [(22, .int (nI (10 - (cnt (mAl (sE M)) 10)))), (21, .int (bI hv)), (20, .int (bI (mAl (sE M) kx))), (19, .int vx), (18, .int (nI px)), (17, .int (handle (sE M) kx)), (16, .int (nI ox)), (15, .int (nI kx)), (14, .int (nI kd9)), (13, .int z), (12, .int x), (11, .int (nI k)), (10, .ref (g + 9)), (9, .ref (g + 8)), (8, .ref (g + 7)), (7, .ref (g + 6)), (6, .ref (g + 5)), (5, .ref (g + 4)), (4, .ref (g + 3)), (3, .ref (g + 2)), (2, .ref (g + 1)), (1, .ref b0), (0, .ref b)]) hx hb dL_law_1795 hl (by decide) rfl (fun ls hl => ?_)
    refine lv_iconst (v := nI 0) hx hb dL_law_1797 (by decide) ?_
    refine lv_istore (lv' := [(23, .int (nI 0)), (22, .int (nI (10 - (cnt (mAl (sE M)) 10)))), (21, .int (bI hv)), (20, .int (bI (mAl (sE M) kx))), (19, .int vx), (18, .int (nI px)), (17, .int (handle (sE M) kx)), (16, .int (nI ox)), (15, .int (nI kx)), (14, .int (nI kd9)), (13, .int z), (12, .int x), (11, .int (nI k)), (10, .ref (g + 9)), (9, .ref (g + 8)), (8, .ref (g + 7)), (7, .ref (g + 6)), (6, .ref (g + 5)), (5, .ref (g + 4)), (4, .ref (g + 3)), (3, .ref (g + 2)), (2, .ref (g + 1)), (1, .ref b0), (0, .ref b)]) hx hb dL_law_1798 hl (by decide) rfl (fun ls hl => ?_)
    refine lv_iconst (v := nI 0) hx hb dL_law_1800 (by decide) ?_
    refine lv_istore (lv' := [(24, .int (nI 0)), (23, .int (nI 0)), (22, .int (nI (10 - (cnt (mAl (sE M)) 10)))), (21, .int (bI hv)), (20, .int (bI (mAl (sE M) kx))), (19, .int vx), (18, .int (nI px)), (17, .int (handle (sE M) kx)), (16, .int (nI ox)), (15, .int (nI kx)), (14, .int (nI kd9)), (13, .int z), (12, .int x), (11, .int (nI k)), (10, .ref (g + 9)), (9, .ref (g + 8)), (8, .ref (g + 7)), (7, .ref (g + 6)), (6, .ref (g + 5)), (5, .ref (g + 4)), (4, .ref (g + 3)), (3, .ref (g + 2)), (2, .ref (g + 1)), (1, .ref b0), (0, .ref b)]) hx hb dL_law_1801 hl (by decide) rfl (fun ls hl => ?_)
    have loop1803 : ∀ (n : Nat) (i9 : Nat), (wC (sW M)).1 - i9 < n → (i9 ≤ (wC (sW M)).1) → ∀ (ls : Array Slot), lv_has ls 26 [(24, .int (nI i9)), (23, .int (nI (mkN (wC (sW M)) i9))), (22, .int (nI (10 - (cnt (mAl (sE M)) 10)))), (21, .int (bI hv)), (20, .int (bI (mAl (sE M) kx))), (19, .int vx), (18, .int (nI px)), (17, .int (handle (sE M) kx)), (16, .int (nI ox)), (15, .int (nI kx)), (14, .int (nI kd9)), (13, .int z), (12, .int x), (11, .int (nI k)), (10, .ref (g + 9)), (9, .ref (g + 8)), (8, .ref (g + 7)), (7, .ref (g + 6)), (6, .ref (g + 5)), (5, .ref (g + 4)), (4, .ref (g + 3)), (3, .ref (g + 2)), (2, .ref (g + 1)), (1, .ref b0), (0, .ref b)] → W p l e room_1 s m #[Value.ref b] below meth c H1 locs1 (200 + 4400 * k) (5000 + 50000 * k) Q (F0 m 1803 ls []) := by
      intro n
      induction n with
      | zero => intro i9 hfuel; exact absurd hfuel (Nat.not_lt_zero _)
      | succ n ih1803 =>
        intro i9 hfuel hi9 ls hl
        refine lv_iload hx hb dL_law_1803 (lv_at hl 0 rfl) ?_
        refine lv_aload hx hb dL_law_1805 (lv_at hl 14 rfl) ?_
        refine lv_bipush (v := nI 7) hx hb dL_law_1807 (by decide) ?_
        refine n_ld9 (i := 7) hx hb hK hL (by omega) dL_law_1809 ?_
        refine x_top (y := (nI ((wC (sW M)).1))) (w7) ?_
        refine y_icmp_ge hx hb (by omega) (by omega) (tgt := 1840) dL_law_1810 (by decide) (fun c1810 => ?_) (fun c1810 => ?_)
        · have hin : i9 = (wC (sW M)).1 := by omega
          have hmle : mkN (wC (sW M)) i9 ≤ i9 := cnt_le _ i9
          refine lv_iload hx hb dL_law_1840 (lv_at hl 1 rfl) ?_
          refine lv_iload hx hb dL_law_1842 (lv_at hl 2 rfl) ?_
          refine y_icmp_le hx hb (by omega) (by omega) (tgt := 1849) dL_law_1844 (by decide) (fun c1844 => ?_) (fun c1844 => ?_)
          · refine lv_iconst (v := nI 0) hx hb dL_law_1849 (by decide) ?_
            refine lv_istore (lv' := [(24, .int (nI 0)), (23, .int (nI (mkN (wC (sW M)) i9))), (22, .int (nI (10 - (cnt (mAl (sE M)) 10)))), (21, .int (bI hv)), (20, .int (bI (mAl (sE M) kx))), (19, .int vx), (18, .int (nI px)), (17, .int (handle (sE M) kx)), (16, .int (nI ox)), (15, .int (nI kx)), (14, .int (nI kd9)), (13, .int z), (12, .int x), (11, .int (nI k)), (10, .ref (g + 9)), (9, .ref (g + 8)), (8, .ref (g + 7)), (7, .ref (g + 6)), (6, .ref (g + 5)), (5, .ref (g + 4)), (4, .ref (g + 3)), (3, .ref (g + 2)), (2, .ref (g + 1)), (1, .ref b0), (0, .ref b)]) hx hb dL_law_1850 hl (by decide) rfl (fun ls hl => ?_)
            refine lv_aload hx hb dL_law_1852 (lv_at hl 14 rfl) ?_
            refine lv_iconst (v := nI 4) hx hb dL_law_1854 (by decide) ?_
            refine lv_iconst (v := nI 0) hx hb dL_law_1855 (by decide) ?_
            refine n_st9 (i := 4) (v := (nI 0)) hx hb hK hS hL hAS (by omega) dL_law_1856 (fun H2 locs2 hL hz2 hq2 hS => ?_)
            have hPK := hPK.w hL (Nat.le_of_eq hz2.symm) (fun q _ zz => hq2 q zz)
            obtain ⟨Y2, hPK, hL, hY2⟩ : ∃ Yn, PK D T dE b0 (fun q : Nat => s.heap.size ≤ q) g Yn M H2 ∧ SL T g Yn H2 ∧ Yn = up2 Y 9 (upd (Y 9) 4 (nI 0)) := ⟨_, hPK, hL, rfl⟩
            obtain ⟨Yb, hYb⟩ : ∃ Yb, Yb = Y2 := ⟨_, rfl⟩
            have hb1 : ∀ j, j ≠ 9 → Yb j = Y j := fun j hj => by rw [hYb, hY2]; simp only [up2, if_neg hj]
            have hb2 : ∀ i, i ≠ 4 → Yb 9 i = Y 9 i := fun i hi => by rw [hYb, hY2]; exact upd_n hi
            have hb4 : Yb 9 4 = nI 0 := by rw [hYb, hY2]; rfl
            have hTb : LTw Yb (sE M) (sR M) := hT.same (hb1 1 (by decide)) (hb1 2 (by decide)) (hb1 3 (by decide)) (hb1 4 (by decide)) (hb2 0 (by decide))
            have hroom : cnt (mAl (sE M)) 10 + mkN (wC (sW M)) (wC (sW M)).1 ≤ 10 := by rw [hin] at c1844; omega
            refine lv_iconst (v := nI 0) hx hb dL_law_1857 (by decide) ?_
            refine lv_istore (lv' := [(25, .int (nI 0)), (24, .int (nI 0)), (23, .int (nI (mkN (wC (sW M)) i9))), (22, .int (nI (10 - (cnt (mAl (sE M)) 10)))), (21, .int (bI hv)), (20, .int (bI (mAl (sE M) kx))), (19, .int vx), (18, .int (nI px)), (17, .int (handle (sE M) kx)), (16, .int (nI ox)), (15, .int (nI kx)), (14, .int (nI kd9)), (13, .int z), (12, .int x), (11, .int (nI k)), (10, .ref (g + 9)), (9, .ref (g + 8)), (8, .ref (g + 7)), (7, .ref (g + 6)), (6, .ref (g + 5)), (5, .ref (g + 4)), (4, .ref (g + 3)), (3, .ref (g + 2)), (2, .ref (g + 1)), (1, .ref b0), (0, .ref b)]) hx hb dL_law_1858 hl (by decide) rfl (fun ls hl => ?_)
            have loop1860 : ∀ (n : Nat) (i9 : Nat) (Y9 : Nat → Nat → Int32) (H9 : Heap) (locs9 : List Loc), (wC (sW M)).1 - i9 < n → (i9 ≤ (wC (sW M)).1) → (PK D T dE b0 (fun q : Nat => s.heap.size ≤ q) g Y9 M H9) → (va_S (fun q : Nat => s.heap.size ≤ q) s.heap H9 locs9) → (LTw Y9 (doN (sE M) (sR M) (wC (sW M)) (sT M) i9).2.1 (doN (sE M) (sR M) (wC (sW M)) (sT M) i9).2.2) → (∀ j, j ≠ 1 → j ≠ 2 → j ≠ 3 → j ≠ 4 → j ≠ 9 → Y9 j = Yb j) → (∀ i, i ≠ 0 → Y9 9 i = Yb 9 i) → (cnt (mAl (doN (sE M) (sR M) (wC (sW M)) (sT M) i9).2.1) 10 + (mkN (wC (sW M)) (wC (sW M)).1 - mkN (wC (sW M)) i9) ≤ 10) → ∀ (ls : Array Slot), lv_has ls 26 [(25, .int (nI i9)), (24, .int (nI ((doN (sE M) (sR M) (wC (sW M)) (sT M) i9).1))), (21, .int (bI hv)), (20, .int (bI (mAl (sE M) kx))), (19, .int vx), (18, .int (nI px)), (17, .int (handle (sE M) kx)), (16, .int (nI ox)), (15, .int (nI kx)), (14, .int (nI kd9)), (13, .int z), (12, .int x), (11, .int (nI k)), (10, .ref (g + 9)), (9, .ref (g + 8)), (8, .ref (g + 7)), (7, .ref (g + 6)), (6, .ref (g + 5)), (5, .ref (g + 4)), (4, .ref (g + 3)), (3, .ref (g + 2)), (2, .ref (g + 1)), (1, .ref b0), (0, .ref b)] → W p l e room_1 s m #[Value.ref b] below meth c H9 locs9 (200 + 4400 * k) (5000 + 50000 * k) Q (F0 m 1860 ls []) := by
              intro n
              induction n with
              | zero => intro i9 Y9 H9 locs9 hfuel; exact absurd hfuel (Nat.not_lt_zero _)
              | succ n ih1860 =>
                intro i9 Y9 H9 locs9 hfuel hi8 hPK hS hT9 hf9 hi9 hrm ls hl
                have hL := hPK.sl
                refine lv_iload hx hb dL_law_1860 (lv_at hl 0 rfl) ?_
                refine lv_aload hx hb dL_law_1862 (lv_at hl 13 rfl) ?_
                refine lv_bipush (v := nI 7) hx hb dL_law_1864 (by decide) ?_
                refine n_ld9 (i := 7) hx hb hK hL (by omega) dL_law_1866 ?_
                refine x_top (y := (nI ((wC (sW M)).1))) (by rw [hi9 7 (by decide), hb2 7 (by decide)]; exact w7) ?_
                refine y_icmp_ge hx hb (by omega) (by omega) (tgt := 1938) dL_law_1867 (by decide) (fun c1867 => ?_) (fun c1867 => ?_)
                · have hin2 : i9 = (wC (sW M)).1 := by omega
                  have hl : lv_has ls 26 [(25, .int (nI i9)), (24, .int (nI ((doN (sE M) (sR M) (wC (sW M)) (sT M) (wC (sW M)).1).1))), (21, .int (bI hv)), (20, .int (bI (mAl (sE M) kx))), (19, .int vx), (18, .int (nI px)), (17, .int (handle (sE M) kx)), (16, .int (nI ox)), (15, .int (nI kx)), (14, .int (nI kd9)), (13, .int z), (12, .int x), (11, .int (nI k)), (10, .ref (g + 9)), (9, .ref (g + 8)), (8, .ref (g + 7)), (7, .ref (g + 6)), (6, .ref (g + 5)), (5, .ref (g + 4)), (4, .ref (g + 3)), (3, .ref (g + 2)), (2, .ref (g + 1)), (1, .ref b0), (0, .ref b)] := by
                    have e9 : (nI ((doN (sE M) (sR M) (wC (sW M)) (sT M) i9).1)) = (nI ((doN (sE M) (sR M) (wC (sW M)) (sT M) (wC (sW M)).1).1)) := by rw [hin2]
                    first
                      | (rw [← e9]; exact hl)
                      | (rw [e9] at hl; exact hl)
                  rw [hin2] at hT9
                  have hdl := @doN_le (sE M) (sR M) (wC (sW M)) (sT M) (wC (sW M)).1
                  refine lv_aload hx hb dL_law_1938 (lv_at hl 13 rfl) ?_
                  refine lv_bipush (v := nI 7) hx hb dL_law_1940 (by decide) ?_
                  refine lv_iconst (v := nI 0) hx hb dL_law_1942 (by decide) ?_
                  refine n_st9 (i := 7) (v := (nI 0)) hx hb hK hS hL hAS (by omega) dL_law_1943 (fun H3 locs3 hL hz3 hq3 hS => ?_)
                  have hPK := hPK.w hL (Nat.le_of_eq hz3.symm) (fun q _ zz => hq3 q zz)
                  obtain ⟨Y3, hPK, hL, hY3⟩ : ∃ Yn, PK D T dE b0 (fun q : Nat => s.heap.size ≤ q) g Yn M H3 ∧ SL T g Yn H3 ∧ Yn = up2 Y9 9 (upd (Y9 9) 7 (nI 0)) := ⟨_, hPK, hL, rfl⟩
                  refine lv_aload_n hx hb dL_law_1944 rfl (lv_at hl 22 rfl) ?_
                  refine k_iN (k_V (As := []) (rest := []) ⟨hx, hb, hml, hown, hts⟩ hev hS (w_finish l hst hPK hI (by omega) (by rw [fi_0 c1771])) (cwV 0 hts gL_law_X6_finish rfl rfl rfl (by decide +kernel) ⟨Nat.le_of_ble_eq_true rfl, Nat.le_of_ble_eq_true rfl⟩) (pk_recv hK hPK) rfl hl.1 (Nat.le_of_ble_eq_true rfl) dL_law_1945 (by show _ ≤ (704995 : Nat); omega) (by show _ ≤ (6986640 : Nat); omega)) hS (fun rq4_ H4 locs4 hP hz4 hS => ?_)
                  rw [fi_0 c1771] at hP
                  have er := hP.1
                  have hPK := hP.2
                  have hL := hPK.sl
                  refine x_top (y := (nI ((doN (sE M) (sR M) (wC (sW M)) (sT M) (wC (sW M)).1).1))) (er) ?_
                  have hI8 : Inv (800 * (k + 1)) ((doN (sE M) (sR M) (wC (sW M)) (sT M) (wC (sW M)).1).2.1, (doN (sE M) (sR M) (wC (sW M)) (sT M) (wC (sW M)).1).2.2, sQ M, (false, (wN (sW M), wA (sW M), wTold (sW M)), wC (sW M)), sY M, sT M) := by have := i_finish hI (by omega); rw [fi_0 c1771] at this; exact this.mono (by omega) (by omega)
                  have hR8 : LRel Y3 ((doN (sE M) (sR M) (wC (sW M)) (sT M) (wC (sW M)).1).2.1, (doN (sE M) (sR M) (wC (sW M)) (sT M) (wC (sW M)).1).2.2, sQ M, (false, (wN (sW M), wA (sW M), wTold (sW M)), wC (sW M)), sY M, sT M) := ⟨hT9.same (by rw [hY3]; rfl) (by rw [hY3]; rfl) (by rw [hY3]; rfl) (by rw [hY3]; rfl) (by rw [hY3]; rfl), hR.2.1.same (by rw [hY3]; exact (hf9 5 (by decide) (by decide) (by decide) (by decide) (by decide)).trans (hb1 5 (by decide))) (by rw [hY3]; exact (hi9 2 (by decide)).trans (hb2 2 (by decide))), hR.2.2.1.same (by rw [hY3]; exact (hf9 6 (by decide) (by decide) (by decide) (by decide) (by decide)).trans (hb1 6 (by decide))) (by rw [hY3]; exact (hi9 3 (by decide)).trans (hb2 3 (by decide))), by rw [hY3]; exact ((hi9 1 (by decide)).trans (hb2 1 (by decide))).trans hR.2.2.2.1, ⟨by rw [hY3]; exact (hi9 4 (by decide)).trans hb4, fun z => by cases z⟩⟩
                  refine lv_iload hx hb dL_law_1948 (lv_at hl 1 rfl) ?_
                  refine y_icmp_eq hx hb (by omega) (by omega) (tgt := 1955) dL_law_1950 (by decide) (fun c1950 => ?_) (fun c1950 => ?_)
                  · refine W.widen (k := 200 + 4400 * k + 300) (n := 5000 + 50000 * k + 5400) (by omega) (by omega) ?_
                    exact hchk _ _ _ _ ls hPK hR8 hI8 hS (lv_sub hl [12, 13, 14, 15, 16, 17, 18, 19, 20, 21, 22, 23] rfl)
                  · exact absurd rfl c1950
                · obtain ⟨iE9, iR9, hh9⟩ := doN_inv hI (wC (sW M)) i9
                  obtain ⟨w9, hw4, ew⟩ := iW.2.2.2.2 i9 c1867
                  refine lv_iload hx hb dL_law_1870 (lv_at hl 1 rfl) ?_
                  refine lv_aload hx hb dL_law_1872 (lv_at hl 14 rfl) ?_
                  refine lv_iconst (v := nI 4) hx hb dL_law_1874 (by decide) ?_
                  refine lv_iload hx hb dL_law_1875 (lv_at hl 0 rfl) ?_
                  refine y_imul hx hb dL_law_1877 ?_
                  refine n_ld8 (i := 4 * i9) hx hb hK hL (by omega) dL_law_1878 ?_
                  refine x_top (y := ((wC (sW M)).2.1 i9)) (by rw [hf9 8 (by decide) (by decide) (by decide) (by decide) (by decide), hb1 8 (by decide)]; exact (wc i9 c1867).1) ?_
                  refine x_top (y := (nI w9)) (ew) ?_
                  refine lv_aload hx hb dL_law_1879 (lv_at hl 14 rfl) ?_
                  refine lv_iconst (v := nI 4) hx hb dL_law_1881 (by decide) ?_
                  refine lv_iload hx hb dL_law_1882 (lv_at hl 0 rfl) ?_
                  refine y_imul hx hb dL_law_1884 ?_
                  refine lv_iconst (v := nI 1) hx hb dL_law_1885 (by decide) ?_
                  refine y_iadd hx hb dL_law_1886 ?_
                  refine n_ld8 (i := (4 * i9) + 1) hx hb hK hL (by omega) dL_law_1887 ?_
                  refine x_top (y := ((wC (sW M)).2.2.1 i9)) (by rw [hf9 8 (by decide) (by decide) (by decide) (by decide) (by decide), hb1 8 (by decide)]; exact (wc i9 c1867).2.1) ?_
                  refine lv_aload_n hx hb dL_law_1888 rfl (lv_at hl 21 rfl) ?_
                  refine k_iN (k_S (As := [.int ((wC (sW M)).2.2.1 i9), .ref (g + 1)]) (rest := [.int (nI w9), .int (nI ((doN (sE M) (sR M) (wC (sW M)) (sT M) i9).1))]) ⟨hx, hb, hml, hown, hts⟩ hev hS (c_L_slot l hL hT9.1 (b := 900000) (by decide) (fun j => Nat.le_trans (hh9 j) (by omega)) ((wC (sW M)).2.2.1 i9)) (va_cwS 2 hts gL_law_L_slot rfl rfl rfl (by decide +kernel) ⟨Nat.le_of_ble_eq_true rfl, Nat.le_of_ble_eq_true rfl⟩) rfl hl.1 (Nat.le_of_ble_eq_true rfl) dL_law_1889 (by show _ ≤ (704995 : Nat); omega) (by show _ ≤ (6986640 : Nat); omega)) hS (fun rq5_ H5 locs5 hP hz5 hS => ?_)
                  refine W.widen (k := 200 + 4400 * k) (n := 5000 + 50000 * k) (Nat.le_refl _) (Nat.le_refl _) ?_
                  have hPK : PK D T dE b0 (fun q : Nat => s.heap.size ≤ q) g Y9 M H5 := by rw [hP.1]; exact hPK
                  have hL := hPK.sl
                  refine x_top (y := (nO (look (doN (sE M) (sR M) (wC (sW M)) (sT M) i9).2.1 ((wC (sW M)).2.2.1 i9)))) (hP.2) ?_
                  refine lv_aload hx hb dL_law_1892 (lv_at hl 14 rfl) ?_
                  refine lv_iconst (v := nI 4) hx hb dL_law_1894 (by decide) ?_
                  refine lv_iload hx hb dL_law_1895 (lv_at hl 0 rfl) ?_
                  refine y_imul hx hb dL_law_1897 ?_
                  refine lv_iconst (v := nI 2) hx hb dL_law_1898 (by decide) ?_
                  refine y_iadd hx hb dL_law_1899 ?_
                  refine n_ld8 (i := (4 * i9) + 2) hx hb hK hL (by omega) dL_law_1900 ?_
                  refine x_top (y := ((wC (sW M)).2.2.2.1 i9)) (by rw [hf9 8 (by decide) (by decide) (by decide) (by decide) (by decide), hb1 8 (by decide)]; exact (wc i9 c1867).2.2.1) ?_
                  refine lv_aload hx hb dL_law_1901 (lv_at hl 14 rfl) ?_
                  refine lv_iconst (v := nI 4) hx hb dL_law_1903 (by decide) ?_
                  refine lv_iload hx hb dL_law_1904 (lv_at hl 0 rfl) ?_
                  refine y_imul hx hb dL_law_1906 ?_
                  refine lv_iconst (v := nI 3) hx hb dL_law_1907 (by decide) ?_
                  refine y_iadd hx hb dL_law_1908 ?_
                  refine n_ld8 (i := (4 * i9) + 3) hx hb hK hL (by omega) dL_law_1909 ?_
                  refine x_top (y := ((wC (sW M)).2.2.2.2 i9)) (by rw [hf9 8 (by decide) (by decide) (by decide) (by decide) (by decide), hb1 8 (by decide)]; exact (wc i9 c1867).2.2.2) ?_
                  refine lv_aload_n hx hb dL_law_1910 rfl (lv_at hl 21 rfl) ?_
                  refine lv_aload_n hx hb dL_law_1911 rfl (lv_at hl 20 rfl) ?_
                  refine lv_aload hx hb dL_law_1912 (lv_at hl 19 rfl) ?_
                  refine lv_aload hx hb dL_law_1914 (lv_at hl 18 rfl) ?_
                  refine lv_aload hx hb dL_law_1916 (lv_at hl 13 rfl) ?_
                  refine k_iA (k_SA (As := [.int (nI w9), .int (nO (look (doN (sE M) (sR M) (wC (sW M)) (sT M) i9).2.1 ((wC (sW M)).2.2.1 i9))), .int ((wC (sW M)).2.2.2.1 i9), .int ((wC (sW M)).2.2.2.2 i9), .ref (g + 1), .ref (g + 2), .ref (g + 3), .ref (g + 4), .ref (g + 9)]) (rest := [.int (nI ((doN (sE M) (sR M) (wC (sW M)) (sT M) i9).1))]) ⟨hx, hb, hml, hown, hts⟩ hev hS hAS (c_L_does l hL hT9 iE9 iR9 hw4 (h := (wC (sW M)).2.2.1 i9) rfl ((wC (sW M)).2.2.2.1 i9) ((wC (sW M)).2.2.2.2 i9) (tk := sT M) (by rw [hi9 1 (by decide), hb2 1 (by decide)]; exact hR.2.2.2.1) (fun e3 => free_10 (by have := mkN_t (C := (wC (sW M))) (i := i9) (by rw [ew, e3]); have := mkN_mono (C := (wC (sW M))) (show i9 + 1 ≤ (wC (sW M)).1 by omega); omega))) (va_cwS 9 hts gL_law_L_does rfl rfl rfl (by decide +kernel) ⟨Nat.le_of_ble_eq_true rfl, Nat.le_of_ble_eq_true rfl⟩) rfl hl.1 (Nat.le_of_ble_eq_true rfl) dL_law_1918 (by show _ ≤ (704995 : Nat); omega) (by show _ ≤ (6986640 : Nat); omega)) hS hAS (fun rq6_ H6 locs6 hP hz6 hk6 hS => ?_)
                  refine W.widen (k := 200 + 4400 * k) (n := 5000 + 50000 * k) (Nat.le_refl _) (Nat.le_refl _) ?_
                  obtain ⟨er, Y8, hL, hT8, hj8, h98⟩ := hP
                  have hPK := hPK.w hL hz6 hk6
                  refine x_top (y := (bI ((doC (doN (sE M) (sR M) (wC (sW M)) (sT M) i9).2.1 (doN (sE M) (sR M) (wC (sW M)) (sT M) i9).2.2 (sT M) (nI w9) ((wC (sW M)).2.2.1 i9) ((wC (sW M)).2.2.2.1 i9) ((wC (sW M)).2.2.2.2 i9)).1))) (er) ?_
                  have hT8 : LTw Y8 (doN (sE M) (sR M) (wC (sW M)) (sT M) (i9 + 1)).2.1 (doN (sE M) (sR M) (wC (sW M)) (sT M) (i9 + 1)).2.2 := by show LTw Y8 (doC (doN (sE M) (sR M) (wC (sW M)) (sT M) i9).2.1 (doN (sE M) (sR M) (wC (sW M)) (sT M) i9).2.2 (sT M) ((wC (sW M)).2.1 i9) ((wC (sW M)).2.2.1 i9) ((wC (sW M)).2.2.2.1 i9) ((wC (sW M)).2.2.2.2 i9)).2.1 (doC (doN (sE M) (sR M) (wC (sW M)) (sT M) i9).2.1 (doN (sE M) (sR M) (wC (sW M)) (sT M) i9).2.2 (sT M) ((wC (sW M)).2.1 i9) ((wC (sW M)).2.2.1 i9) ((wC (sW M)).2.2.2.1 i9) ((wC (sW M)).2.2.2.2 i9)).2.2; rw [ew]; exact hT8
                  have hrm8 : cnt (mAl (doN (sE M) (sR M) (wC (sW M)) (sT M) (i9 + 1)).2.1) 10 + (mkN (wC (sW M)) (wC (sW M)).1 - mkN (wC (sW M)) (i9 + 1)) ≤ 10 := by
                    have h1 := @doC_cnt (doN (sE M) (sR M) (wC (sW M)) (sT M) i9).2.1 (doN (sE M) (sR M) (wC (sW M)) (sT M) i9).2.2 (sT M) ((wC (sW M)).2.2.1 i9) ((wC (sW M)).2.2.2.1 i9) ((wC (sW M)).2.2.2.2 i9) w9 hw4
                    have h2 := mkN_mono (C := (wC (sW M))) (show i9 + 1 ≤ (wC (sW M)).1 by omega)
                    have h3 : cnt (mAl (doN (sE M) (sR M) (wC (sW M)) (sT M) (i9 + 1)).2.1) 10 = cnt (mAl (doC (doN (sE M) (sR M) (wC (sW M)) (sT M) i9).2.1 (doN (sE M) (sR M) (wC (sW M)) (sT M) i9).2.2 (sT M) (nI w9) ((wC (sW M)).2.2.1 i9) ((wC (sW M)).2.2.2.1 i9) ((wC (sW M)).2.2.2.2 i9)).2.1) 10 := by show cnt (mAl (doC (doN (sE M) (sR M) (wC (sW M)) (sT M) i9).2.1 (doN (sE M) (sR M) (wC (sW M)) (sT M) i9).2.2 (sT M) ((wC (sW M)).2.1 i9) ((wC (sW M)).2.2.1 i9) ((wC (sW M)).2.2.2.1 i9) ((wC (sW M)).2.2.2.2 i9)).2.1) 10 = _; rw [ew]
                    rw [h3]
                    by_cases c3 : w9 = 3
                    · have h4 := mkN_t (C := (wC (sW M))) (i := i9) (by rw [ew, c3])
                      rw [if_pos c3] at h1
                      omega
                    · have h4 := mkN_f (C := (wC (sW M))) (i := i9) (by rw [ew]; exact fun e => c3 (nI_ne (by omega) (by decide) e))
                      rw [if_neg c3] at h1
                      omega
                  refine y_bif_eq hx hb (tgt := 1928) dL_law_1921 (by decide) (fun c1921 => ?_) (fun c1921 => ?_)
                  · refine lv_iconst (v := nI 0) hx hb dL_law_1928 (by decide) ?_
                    refine y_iadd hx hb dL_law_1929 ?_
                    refine lv_istore (lv' := [(24, .int (nI (((doN (sE M) (sR M) (wC (sW M)) (sT M) i9).1) + 0))), (25, .int (nI i9)), (21, .int (bI hv)), (20, .int (bI (mAl (sE M) kx))), (19, .int vx), (18, .int (nI px)), (17, .int (handle (sE M) kx)), (16, .int (nI ox)), (15, .int (nI kx)), (14, .int (nI kd9)), (13, .int z), (12, .int x), (11, .int (nI k)), (10, .ref (g + 9)), (9, .ref (g + 8)), (8, .ref (g + 7)), (7, .ref (g + 6)), (6, .ref (g + 5)), (5, .ref (g + 4)), (4, .ref (g + 3)), (3, .ref (g + 2)), (2, .ref (g + 1)), (1, .ref b0), (0, .ref b)]) hx hb dL_law_1930 hl (by decide) rfl (fun ls hl => ?_)
                    have hl : lv_has ls 26 [(24, .int (nI ((doN (sE M) (sR M) (wC (sW M)) (sT M) (i9 + 1)).1))), (25, .int (nI i9)), (21, .int (bI hv)), (20, .int (bI (mAl (sE M) kx))), (19, .int vx), (18, .int (nI px)), (17, .int (handle (sE M) kx)), (16, .int (nI ox)), (15, .int (nI kx)), (14, .int (nI kd9)), (13, .int z), (12, .int x), (11, .int (nI k)), (10, .ref (g + 9)), (9, .ref (g + 8)), (8, .ref (g + 7)), (7, .ref (g + 6)), (6, .ref (g + 5)), (5, .ref (g + 4)), (4, .ref (g + 3)), (3, .ref (g + 2)), (2, .ref (g + 1)), (1, .ref b0), (0, .ref b)] := by
                      have e9 : (nI (((doN (sE M) (sR M) (wC (sW M)) (sT M) i9).1) + 0)) = (nI ((doN (sE M) (sR M) (wC (sW M)) (sT M) (i9 + 1)).1)) := by rw [doN_f (by rw [ew]; exact c1921)]; rfl
                      first
                        | (rw [← e9]; exact hl)
                        | (rw [e9] at hl; exact hl)
                    refine lv_iinc (v := (nI (i9 + 1))) (lv' := [(25, .int (nI (i9 + 1))), (24, .int (nI ((doN (sE M) (sR M) (wC (sW M)) (sT M) (i9 + 1)).1))), (21, .int (bI hv)), (20, .int (bI (mAl (sE M) kx))), (19, .int vx), (18, .int (nI px)), (17, .int (handle (sE M) kx)), (16, .int (nI ox)), (15, .int (nI kx)), (14, .int (nI kd9)), (13, .int z), (12, .int x), (11, .int (nI k)), (10, .ref (g + 9)), (9, .ref (g + 8)), (8, .ref (g + 7)), (7, .ref (g + 6)), (6, .ref (g + 5)), (5, .ref (g + 4)), (4, .ref (g + 3)), (3, .ref (g + 2)), (2, .ref (g + 1)), (1, .ref b0), (0, .ref b)]) hx hb dL_law_1932 hl (k := 1) rfl (nI_inc _) (by decide) rfl (fun ls hl => ?_)
                    refine lv_goto (tgt := 1860) hx hb dL_law_1935 (by decide) ?_
                    exact ih1860 (i9 + 1) Y8 H6 locs6 (by omega) (by omega) hPK hS hT8 (fun j h1 h2 h3 h4 h9 => (hj8 j h1 h2 h3 h4 h9).trans (hf9 j h1 h2 h3 h4 h9)) (fun i hi => (h98 i hi).trans (hi9 i hi)) hrm8 ls (lv_sub hl [0, 1, 2, 3, 4, 5, 6, 7, 8, 9, 10, 11, 12, 13, 14, 15, 16, 17, 18, 19, 20, 21, 22, 23] rfl)
                  · refine lv_iconst (v := nI 1) hx hb dL_law_1924 (by decide) ?_
                    refine lv_goto (tgt := 1929) hx hb dL_law_1925 (by decide) ?_
                    refine y_iadd hx hb dL_law_1929 ?_
                    refine lv_istore (lv' := [(24, .int (nI (((doN (sE M) (sR M) (wC (sW M)) (sT M) i9).1) + 1))), (25, .int (nI i9)), (21, .int (bI hv)), (20, .int (bI (mAl (sE M) kx))), (19, .int vx), (18, .int (nI px)), (17, .int (handle (sE M) kx)), (16, .int (nI ox)), (15, .int (nI kx)), (14, .int (nI kd9)), (13, .int z), (12, .int x), (11, .int (nI k)), (10, .ref (g + 9)), (9, .ref (g + 8)), (8, .ref (g + 7)), (7, .ref (g + 6)), (6, .ref (g + 5)), (5, .ref (g + 4)), (4, .ref (g + 3)), (3, .ref (g + 2)), (2, .ref (g + 1)), (1, .ref b0), (0, .ref b)]) hx hb dL_law_1930 hl (by decide) rfl (fun ls hl => ?_)
                    have hl : lv_has ls 26 [(24, .int (nI ((doN (sE M) (sR M) (wC (sW M)) (sT M) (i9 + 1)).1))), (25, .int (nI i9)), (21, .int (bI hv)), (20, .int (bI (mAl (sE M) kx))), (19, .int vx), (18, .int (nI px)), (17, .int (handle (sE M) kx)), (16, .int (nI ox)), (15, .int (nI kx)), (14, .int (nI kd9)), (13, .int z), (12, .int x), (11, .int (nI k)), (10, .ref (g + 9)), (9, .ref (g + 8)), (8, .ref (g + 7)), (7, .ref (g + 6)), (6, .ref (g + 5)), (5, .ref (g + 4)), (4, .ref (g + 3)), (3, .ref (g + 2)), (2, .ref (g + 1)), (1, .ref b0), (0, .ref b)] := by
                      have e9 : (nI (((doN (sE M) (sR M) (wC (sW M)) (sT M) i9).1) + 1)) = (nI ((doN (sE M) (sR M) (wC (sW M)) (sT M) (i9 + 1)).1)) := by rw [doN_t (by rw [ew]; exact c1921)]
                      first
                        | (rw [← e9]; exact hl)
                        | (rw [e9] at hl; exact hl)
                    refine lv_iinc (v := (nI (i9 + 1))) (lv' := [(25, .int (nI (i9 + 1))), (24, .int (nI ((doN (sE M) (sR M) (wC (sW M)) (sT M) (i9 + 1)).1))), (21, .int (bI hv)), (20, .int (bI (mAl (sE M) kx))), (19, .int vx), (18, .int (nI px)), (17, .int (handle (sE M) kx)), (16, .int (nI ox)), (15, .int (nI kx)), (14, .int (nI kd9)), (13, .int z), (12, .int x), (11, .int (nI k)), (10, .ref (g + 9)), (9, .ref (g + 8)), (8, .ref (g + 7)), (7, .ref (g + 6)), (6, .ref (g + 5)), (5, .ref (g + 4)), (4, .ref (g + 3)), (3, .ref (g + 2)), (2, .ref (g + 1)), (1, .ref b0), (0, .ref b)]) hx hb dL_law_1932 hl (k := 1) rfl (nI_inc _) (by decide) rfl (fun ls hl => ?_)
                    refine lv_goto (tgt := 1860) hx hb dL_law_1935 (by decide) ?_
                    exact ih1860 (i9 + 1) Y8 H6 locs6 (by omega) (by omega) hPK hS hT8 (fun j h1 h2 h3 h4 h9 => (hj8 j h1 h2 h3 h4 h9).trans (hf9 j h1 h2 h3 h4 h9)) (fun i hi => (h98 i hi).trans (hi9 i hi)) hrm8 ls (lv_sub hl [0, 1, 2, 3, 4, 5, 6, 7, 8, 9, 10, 11, 12, 13, 14, 15, 16, 17, 18, 19, 20, 21, 22, 23] rfl)
            exact loop1860 (((wC (sW M)).1 - 0) + 1) 0 Y2 H2 locs2 (Nat.lt_succ_self _) (Nat.zero_le _) hPK hS (by rw [← hYb]; exact hTb) (fun j _ _ _ _ _ => by rw [← hYb]) (fun i _ => by rw [← hYb]) (by show cnt (mAl (sE M)) 10 + (_ - 0) ≤ 10; exact hroom) ls (lv_sub hl [0, 1, 4, 5, 6, 7, 8, 9, 10, 11, 12, 13, 14, 15, 16, 17, 18, 19, 20, 21, 22, 23, 24, 25] rfl)
          · refine lv_iconst (v := nI 1) hx hb dL_law_1847 (by decide) ?_
            refine W.widen (k := 200 + 4400 * (k + 1)) (n := 5000 + 50000 * (k + 1)) (by omega) (by omega) ?_
            exact hrtn _ _ ls hS
        · refine lv_iload hx hb dL_law_1813 (lv_at hl 1 rfl) ?_
          refine lv_aload hx hb dL_law_1815 (lv_at hl 15 rfl) ?_
          refine lv_iconst (v := nI 4) hx hb dL_law_1817 (by decide) ?_
          refine lv_iload hx hb dL_law_1818 (lv_at hl 0 rfl) ?_
          refine y_imul hx hb dL_law_1820 ?_
          refine n_ld8 (i := 4 * i9) hx hb hK hL (by omega) dL_law_1821 ?_
          refine x_top (y := ((wC (sW M)).2.1 i9)) ((wc i9 c1810).1) ?_
          refine lv_iconst (v := nI 3) hx hb dL_law_1822 (by decide) ?_
          refine lv_icmp_ne (tgt := 1830) hx hb dL_law_1823 (by decide) (fun c1823 => ?_) (fun c1823 => ?_)
          · refine lv_iconst (v := nI 0) hx hb dL_law_1830 (by decide) ?_
            refine y_iadd hx hb dL_law_1831 ?_
            refine lv_istore (lv' := [(23, .int (nI ((mkN (wC (sW M)) i9) + 0))), (24, .int (nI i9)), (22, .int (nI (10 - (cnt (mAl (sE M)) 10)))), (21, .int (bI hv)), (20, .int (bI (mAl (sE M) kx))), (19, .int vx), (18, .int (nI px)), (17, .int (handle (sE M) kx)), (16, .int (nI ox)), (15, .int (nI kx)), (14, .int (nI kd9)), (13, .int z), (12, .int x), (11, .int (nI k)), (10, .ref (g + 9)), (9, .ref (g + 8)), (8, .ref (g + 7)), (7, .ref (g + 6)), (6, .ref (g + 5)), (5, .ref (g + 4)), (4, .ref (g + 3)), (3, .ref (g + 2)), (2, .ref (g + 1)), (1, .ref b0), (0, .ref b)]) hx hb dL_law_1832 hl (by decide) rfl (fun ls hl => ?_)
            have hl : lv_has ls 26 [(23, .int (nI (mkN (wC (sW M)) (i9 + 1)))), (24, .int (nI i9)), (22, .int (nI (10 - (cnt (mAl (sE M)) 10)))), (21, .int (bI hv)), (20, .int (bI (mAl (sE M) kx))), (19, .int vx), (18, .int (nI px)), (17, .int (handle (sE M) kx)), (16, .int (nI ox)), (15, .int (nI kx)), (14, .int (nI kd9)), (13, .int z), (12, .int x), (11, .int (nI k)), (10, .ref (g + 9)), (9, .ref (g + 8)), (8, .ref (g + 7)), (7, .ref (g + 6)), (6, .ref (g + 5)), (5, .ref (g + 4)), (4, .ref (g + 3)), (3, .ref (g + 2)), (2, .ref (g + 1)), (1, .ref b0), (0, .ref b)] := by
              have e9 : (nI ((mkN (wC (sW M)) i9) + 0)) = (nI (mkN (wC (sW M)) (i9 + 1))) := by rw [mkN_f c1823]; rfl
              first
                | (rw [← e9]; exact hl)
                | (rw [e9] at hl; exact hl)
            refine lv_iinc (v := (nI (i9 + 1))) (lv' := [(24, .int (nI (i9 + 1))), (23, .int (nI (mkN (wC (sW M)) (i9 + 1)))), (22, .int (nI (10 - (cnt (mAl (sE M)) 10)))), (21, .int (bI hv)), (20, .int (bI (mAl (sE M) kx))), (19, .int vx), (18, .int (nI px)), (17, .int (handle (sE M) kx)), (16, .int (nI ox)), (15, .int (nI kx)), (14, .int (nI kd9)), (13, .int z), (12, .int x), (11, .int (nI k)), (10, .ref (g + 9)), (9, .ref (g + 8)), (8, .ref (g + 7)), (7, .ref (g + 6)), (6, .ref (g + 5)), (5, .ref (g + 4)), (4, .ref (g + 3)), (3, .ref (g + 2)), (2, .ref (g + 1)), (1, .ref b0), (0, .ref b)]) hx hb dL_law_1834 hl (k := 1) rfl (nI_inc _) (by decide) rfl (fun ls hl => ?_)
            refine lv_goto (tgt := 1803) hx hb dL_law_1837 (by decide) ?_
            exact ih1803 (i9 + 1) (by omega) (by omega) ls (lv_sub hl [0, 1, 2, 3, 4, 5, 6, 7, 8, 9, 10, 11, 12, 13, 14, 15, 16, 17, 18, 19, 20, 21, 22, 23, 24] rfl)
          · refine lv_iconst (v := nI 1) hx hb dL_law_1826 (by decide) ?_
            refine lv_goto (tgt := 1831) hx hb dL_law_1827 (by decide) ?_
            refine y_iadd hx hb dL_law_1831 ?_
            refine lv_istore (lv' := [(23, .int (nI ((mkN (wC (sW M)) i9) + 1))), (24, .int (nI i9)), (22, .int (nI (10 - (cnt (mAl (sE M)) 10)))), (21, .int (bI hv)), (20, .int (bI (mAl (sE M) kx))), (19, .int vx), (18, .int (nI px)), (17, .int (handle (sE M) kx)), (16, .int (nI ox)), (15, .int (nI kx)), (14, .int (nI kd9)), (13, .int z), (12, .int x), (11, .int (nI k)), (10, .ref (g + 9)), (9, .ref (g + 8)), (8, .ref (g + 7)), (7, .ref (g + 6)), (6, .ref (g + 5)), (5, .ref (g + 4)), (4, .ref (g + 3)), (3, .ref (g + 2)), (2, .ref (g + 1)), (1, .ref b0), (0, .ref b)]) hx hb dL_law_1832 hl (by decide) rfl (fun ls hl => ?_)
            have hl : lv_has ls 26 [(23, .int (nI (mkN (wC (sW M)) (i9 + 1)))), (24, .int (nI i9)), (22, .int (nI (10 - (cnt (mAl (sE M)) 10)))), (21, .int (bI hv)), (20, .int (bI (mAl (sE M) kx))), (19, .int vx), (18, .int (nI px)), (17, .int (handle (sE M) kx)), (16, .int (nI ox)), (15, .int (nI kx)), (14, .int (nI kd9)), (13, .int z), (12, .int x), (11, .int (nI k)), (10, .ref (g + 9)), (9, .ref (g + 8)), (8, .ref (g + 7)), (7, .ref (g + 6)), (6, .ref (g + 5)), (5, .ref (g + 4)), (4, .ref (g + 3)), (3, .ref (g + 2)), (2, .ref (g + 1)), (1, .ref b0), (0, .ref b)] := by
              have e9 : (nI ((mkN (wC (sW M)) i9) + 1)) = (nI (mkN (wC (sW M)) (i9 + 1))) := by rw [mkN_t c1823]
              first
                | (rw [← e9]; exact hl)
                | (rw [e9] at hl; exact hl)
            refine lv_iinc (v := (nI (i9 + 1))) (lv' := [(24, .int (nI (i9 + 1))), (23, .int (nI (mkN (wC (sW M)) (i9 + 1)))), (22, .int (nI (10 - (cnt (mAl (sE M)) 10)))), (21, .int (bI hv)), (20, .int (bI (mAl (sE M) kx))), (19, .int vx), (18, .int (nI px)), (17, .int (handle (sE M) kx)), (16, .int (nI ox)), (15, .int (nI kx)), (14, .int (nI kd9)), (13, .int z), (12, .int x), (11, .int (nI k)), (10, .ref (g + 9)), (9, .ref (g + 8)), (8, .ref (g + 7)), (7, .ref (g + 6)), (6, .ref (g + 5)), (5, .ref (g + 4)), (4, .ref (g + 3)), (3, .ref (g + 2)), (2, .ref (g + 1)), (1, .ref b0), (0, .ref b)]) hx hb dL_law_1834 hl (k := 1) rfl (nI_inc _) (by decide) rfl (fun ls hl => ?_)
            refine lv_goto (tgt := 1803) hx hb dL_law_1837 (by decide) ?_
            exact ih1803 (i9 + 1) (by omega) (by omega) ls (lv_sub hl [0, 1, 2, 3, 4, 5, 6, 7, 8, 9, 10, 11, 12, 13, 14, 15, 16, 17, 18, 19, 20, 21, 22, 23, 24] rfl)
    exact loop1803 (((wC (sW M)).1 - 0) + 1) 0 (Nat.lt_succ_self _) (Nat.zero_le _) ls (lv_sub hl [0, 1, 2, 3, 4, 5, 6, 7, 8, 9, 10, 11, 12, 13, 14, 15, 16, 17, 18, 19, 20, 21, 22, 23, 24] rfl)
  · refine lv_aload_n hx hb dL_law_1774 rfl (lv_at hl 20 rfl) ?_
    refine lv_bipush (v := nI 11) hx hb dL_law_1775 (by decide) ?_
    refine lv_iconst (v := nI 0) hx hb dL_law_1777 (by decide) ?_
    refine lv_iconst (v := nI 0) hx hb dL_law_1778 (by decide) ?_
    refine k_iN (k_SW (As := [.ref b0, .int (nI 11), .int (nI 0), .int (nI 0)]) (rest := []) ⟨hx, hb, hml, hown, hts⟩ hev hS (r_L11 l hst hPK hI (by omega) (nI 0) (nI 0) (w := 3) (by rw [fi_1 c1771]; show ¬ (1 : Nat) = 0; decide) (by rw [fi_1 c1771]; rfl)) (vx_cwSW 4 hts gL_law_L_refused rfl rfl rfl (by decide +kernel) ⟨Nat.le_of_ble_eq_true rfl, Nat.le_of_ble_eq_true rfl⟩) rfl hl.1 (Nat.le_of_ble_eq_true rfl) dL_law_1779 (by show _ ≤ (704995 : Nat); omega) (by show _ ≤ (6986640 : Nat); omega)) hS (fun rq7_ H7 locs7 hP hz7 hS => ?_)
    have er := hP.1
    have hPK := hP.2
    have hL := hPK.sl
    refine x_top (y := (nI 3)) (er) ?_
    refine lv_iconst (v := nI 3) hx hb dL_law_1782 (by decide) ?_
    refine y_icmp_eq hx hb (by decide) (by decide) (tgt := 1986) dL_law_1783 (by decide) (fun c1783 => ?_) (fun c1783 => ?_)
    · refine W.widen (k := 200 + 4400 * (k + 1)) (n := 5000 + 50000 * (k + 1)) (by omega) (by omega) ?_
      exact hnxt _ _ _ _ ls hPK hR (hI.mono (by omega) (by omega)) hS (lv_sub hl [10, 11, 12, 13, 14, 15, 16, 17, 18, 19, 20, 21] rfl)
    · exact absurd c1783 (by decide)

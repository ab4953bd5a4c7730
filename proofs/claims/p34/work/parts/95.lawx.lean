/-! telling a walk's answers, commands that wait, and the end of a walk -/
theorem LRel.w {Y Y1 : Nat → Nat → Int32} {M : mSt} {W1 : mW} (h : LRel Y M) (hW : LWk Y1 (sE M) W1) (hj : ∀ j, j ≠ 7 → j ≠ 8 → j ≠ 9 → Y1 j = Y j) (hi : ∀ i, i < 4 → Y1 9 i = Y 9 i) : LRel Y1 (wW M W1) :=
  ⟨h.1.same (hj 1 (by decide) (by decide) (by decide)) (hj 2 (by decide) (by decide) (by decide)) (hj 3 (by decide) (by decide) (by decide)) (hj 4 (by decide) (by decide) (by decide)) (hi 0 (by decide)), h.2.1.same (hj 5 (by decide) (by decide) (by decide)) (hi 2 (by decide)), h.2.2.1.same (hj 6 (by decide) (by decide) (by decide)) (hi 3 (by decide)), (hi 1 (by decide)).trans h.2.2.2.1, hW⟩
theorem nx_1 {M : mSt} (hw : wOn (sW M) = false) : oNext M = oErr M 1 := if_pos hw
theorem nx_e {M : mSt} (hw : wOn (sW M) = true) (h : wTold (sW M) = wN (sW M)) : oNext M = (0, -1, M) := by unfold oNext; rw [if_neg (by rw [hw]; decide), if_pos h]
theorem nx_0 {M : mSt} (hw : wOn (sW M) = true) (h : ¬ wTold (sW M) = wN (sW M)) : oNext M = (0, handle (sE M) (wA (sW M) (wTold (sW M))), wW M (true, (wN (sW M), wA (sW M), wTold (sW M) + 1), wC (sW M))) := by unfold oNext; rw [if_neg (by rw [hw]; decide), if_neg h]
theorem df_2 {M : mSt} {w : Nat} {h k v : Int32} (hw4 : w < 4) (hw : wOn (sW M) = false) : oDefer M (nI w) h k v = oErr M 2 := by unfold oDefer; rw [if_neg (by rw [inB_nI hw4 (by decide)]; decide), if_pos (Or.inl hw)]
theorem df_0 {M : mSt} {w : Nat} {h k v : Int32} (hw4 : w < 4) (hw : wOn (sW M) = true) (hn : (wC (sW M)).1 ≠ 20) : oDefer M (nI w) h k v = (0, nI ((wC (sW M)).1 + 1), wW M (true, (wN (sW M), wA (sW M), wTold (sW M)), cAdd (wC (sW M)) (nI w) h k v)) := by
  unfold oDefer; rw [if_neg (by rw [inB_nI hw4 (by decide)]; decide), if_neg (fun z => by rcases z with z | z; rw [hw] at z; cases z; exact hn z)]
theorem fi_1 {M : mSt} (hw : wOn (sW M) = false) : oFinish M = oErr M 1 := if_pos hw
theorem cnt_nu {f : Nat → Bool} {s : Nat} {b : Bool} : ∀ n, cnt (nu f s b) n ≤ cnt f n + 1 := by
  have h0 : ∀ n, n ≤ s → cnt (nu f s b) n = cnt f n := fun n hn => cnt_same n (fun k hk => nu_n (by omega))
  intro n
  induction n with
  | zero => exact Nat.zero_le _
  | succ n ih =>
    show cnt (nu f s b) n + (if nu f s b n = true then 1 else 0) ≤ cnt f n + (if f n = true then 1 else 0) + 1
    by_cases c : n = s
    · rw [h0 n (by omega)]
      split <;> omega
    · rw [nu_n c]; omega
theorem cnt_mono {f h : Nat → Bool} (hm : ∀ k, f k = true → h k = true) : ∀ n, cnt f n ≤ cnt h n := by
  intro n
  induction n with
  | zero => exact Nat.le_refl _
  | succ n ih =>
    show cnt f n + (if f n = true then 1 else 0) ≤ cnt h n + (if h n = true then 1 else 0)
    by_cases c : f n = true
    · rw [if_pos c, if_pos (hm n c)]; omega
    · rw [if_neg c]; omega
theorem endsL_al : ∀ (n : Nat) (st : List Nat) (E : mE) (R : mR) (c k : Nat), mAl (endsL n st E R c).1 k = true → mAl E k = true := by
  intro n
  induction n with
  | zero => intro st E R c k h; exact h
  | succ n ih =>
    intro st E R c k h
    cases st with
    | nil => exact h
    | cons s t =>
      have h1 := ih _ _ _ _ k h
      have h1 : nu (mAl E) s false k = true := h1
      by_cases d : k = s
      · rw [d, nu_s] at h1; cases h1
      · rw [nu_n d] at h1; exact h1
theorem doC_cnt {E : mE} {R : mR} {t h k v : Int32} {w : Nat} (hw : w < 4) : cnt (mAl (doC E R t (nI w) h k v).2.1) 10 ≤ cnt (mAl E) 10 + (if w = 3 then 1 else 0) := by
  by_cases c : w = 3
  · rw [c, if_pos rfl]
    unfold doC
    rw [if_pos rfl]
    split
    · exact Nat.le_succ _
    · exact cnt_nu 10
  · rw [if_neg c]
    unfold doC
    rw [if_neg (fun e => c (nI_ne (by omega) (by decide) e))]
    split
    · exact Nat.le_refl _
    · split
      · exact cnt_mono (fun k => endsL_al _ _ _ _ _ k) 10
      · split
        · exact Nat.le_refl _
        · split
          · split
            · exact Nat.le_refl _
            · exact Nat.le_refl _
          · split
            · exact Nat.le_refl _
            · exact Nat.le_refl _
def mkN (C : mC) : Nat → Nat := cnt (fun i => decide (C.2.1 i = nI 3))
theorem mkN_t {C : mC} {i : Nat} (h : C.2.1 i = nI 3) : mkN C (i + 1) = mkN C i + 1 := cnt_t (f := fun i => decide (C.2.1 i = nI 3)) (decide_eq_true h)
theorem mkN_f {C : mC} {i : Nat} (h : ¬ C.2.1 i = nI 3) : mkN C (i + 1) = mkN C i := cnt_f (f := fun i => decide (C.2.1 i = nI 3)) (decide_eq_false h)
theorem mkN_mono {C : mC} : ∀ {i n : Nat}, i ≤ n → mkN C i ≤ mkN C n := by
  intro i n
  induction n with
  | zero => intro h; rw [Nat.le_zero.mp h]; exact Nat.le_refl _
  | succ n ih =>
    intro h
    by_cases c : i = n + 1
    · rw [c]; exact Nat.le_refl _
    · exact Nat.le_trans (ih (by omega)) (Nat.le_add_right _ _)
set_option maxHeartbeats 4000000 in
set_option maxRecDepth 100000 in
theorem law_tell {p : Program} {l : Launch} {e : Env} {s : State} {m : MethodId} {below : List Frame} {meth : Method} {c : Code} {Q : State → Prop} {b : Nat} {D : va_G} {T : Nat → ClassId} {dE mi b0 g : Nat} (hst : l.stackTraces = false) (hx : p.tables.exec = Jvm.exec) (hb : c.code = cL_law) (hml : c.maxLocals = 26) (hown : s.vm.findClass RL = some m.cls) (hts : ∀ w ∈ wsL_law, w.before #[Value.ref b] s = true) (hev : EV D T dE mi (fun q : Nat => s.heap.size ≤ q) s) {k : Nat} (hk : k < 70) {H : Heap} {locs : List Loc} {M : mSt} {Y : Nat → Nat → Int32} (hPK : PK D T dE b0 (fun q : Nat => s.heap.size ≤ q) g Y M H) (hR : LRel Y M) (hI : Inv (800 * k) M) (hS : va_S (fun q : Nat => s.heap.size ≤ q) s.heap H locs) {kx ox px kd9 : Nat} {x z vx : Int32} {hv : Bool} (hkx : kx < 10) (hox : ox < 10) (hpx : px < 6) (hhv : mAl (sE M) kx = true → hv = bitS (mKd (sE M) kx) px) (hkd1 : 18 ≤ kd9) (hkd2 : kd9 < 22) {ls : Array Slot} (hl : lv_has ls 26 [(21, .int (bI hv)), (20, .int (bI (mAl (sE M) kx))), (19, .int vx), (18, .int (nI px)), (17, .int (handle (sE M) kx)), (16, .int (nI ox)), (15, .int (nI kx)), (14, .int (nI kd9)), (13, .int z), (12, .int x), (11, .int (nI k)), (10, .ref (g + 9)), (9, .ref (g + 8)), (8, .ref (g + 7)), (7, .ref (g + 6)), (6, .ref (g + 5)), (5, .ref (g + 4)), (4, .ref (g + 3)), (3, .ref (g + 2)), (2, .ref (g + 1)), (1, .ref b0), (0, .ref b)])
    (hchk : ∀ (H1 : Heap) (locs1 : List Loc) (M1 : mSt) (Y1 : Nat → Nat → Int32) (ls1 : Array Slot), PK D T dE b0 (fun q : Nat => s.heap.size ≤ q) g Y1 M1 H1 → LRel Y1 M1 → Inv (800 * (k + 1)) M1 → va_S (fun q : Nat => s.heap.size ≤ q) s.heap H1 locs1 → lv_has ls1 26 [(11, .int (nI k)), (10, .ref (g + 9)), (9, .ref (g + 8)), (8, .ref (g + 7)), (7, .ref (g + 6)), (6, .ref (g + 5)), (5, .ref (g + 4)), (4, .ref (g + 3)), (3, .ref (g + 2)), (2, .ref (g + 1)), (1, .ref b0), (0, .ref b)] → W p l e room_1 s m #[Value.ref b] below meth c H1 locs1 (200 + 4400 * k + 300) (5000 + 50000 * k + 5400) Q (F0 m 1955 ls1 [])) (hnxt : ∀ (H1 : Heap) (locs1 : List Loc) (M1 : mSt) (Y1 : Nat → Nat → Int32) (ls1 : Array Slot), PK D T dE b0 (fun q : Nat => s.heap.size ≤ q) g Y1 M1 H1 → LRel Y1 M1 → Inv (800 * (k + 1)) M1 → va_S (fun q : Nat => s.heap.size ≤ q) s.heap H1 locs1 → lv_has ls1 26 [(11, .int (nI k)), (10, .ref (g + 9)), (9, .ref (g + 8)), (8, .ref (g + 7)), (7, .ref (g + 6)), (6, .ref (g + 5)), (5, .ref (g + 4)), (4, .ref (g + 3)), (3, .ref (g + 2)), (2, .ref (g + 1)), (1, .ref b0), (0, .ref b)] → W p l e room_1 s m #[Value.ref b] below meth c H1 locs1 (200 + 4400 * (k + 1)) (5000 + 50000 * (k + 1)) Q (F0 m 1986 ls1 [])) (hrtn : ∀ (H1 : Heap) (locs1 : List Loc) (ls1 : Array Slot), va_S (fun q : Nat => s.heap.size ≤ q) s.heap H1 locs1 → W p l e room_1 s m #[Value.ref b] below meth c H1 locs1 (200 + 4400 * (k + 1)) (5000 + 50000 * (k + 1)) Q (F0 m 1848 ls1 [.int (nI 1)])) : W p l e room_1 s m #[Value.ref b] below meth c H locs (200 + 4400 * k) (5000 + 50000 * k) Q (F0 m 1554 ls []) := by
  have hK := hev.1
  have hL := hPK.sl
  have hAS := hPK.as
  have hh := hI.had
  have iE := hI.1
  have iR := hI.2.1
  have hT := hR.1
  have h10 := hT.1.2.2.2.2.1
  have hW := hR.2.2.2.2
  have iW0 := hI.2.2.2.1
  refine lv_aload hx hb dL_law_1554 (lv_at hl 11 rfl) ?_
  refine lv_iconst (v := nI 4) hx hb dL_law_1556 (by decide) ?_
  refine n_ld9 (i := 4) hx hb hK hL (by omega) dL_law_1557 ?_
  refine x_top (y := (bI (wOn (sW M)))) (hW.1) ?_
  refine y_bif_ne hx hb (tgt := 1587) dL_law_1558 (by decide) (fun c1558 => ?_) (fun c1558 => ?_)
  · have iW := iW0 c1558
    obtain ⟨w5, w6, w7, w16, w10, wh, wc⟩ := hW.2 c1558
    have wt := iW.2.1
    have hwn32 := iW.1
    refine lv_iload hx hb dL_law_1587 (lv_at hl 7 rfl) ?_
    refine lv_bipush (v := nI 18) hx hb dL_law_1589 (by decide) ?_
    refine y_icmp_ne hx hb (by omega) (Nat.le_of_ble_eq_true rfl) (tgt := 1650) dL_law_1591 (by decide) (fun c1591 => ?_) (fun c1591 => ?_)
    · refine lv_aload hx hb dL_law_1650 (lv_at hl 11 rfl) ?_
      refine lv_bipush (v := nI 7) hx hb dL_law_1652 (by decide) ?_
      refine n_ld9 (i := 7) hx hb hK hL (by omega) dL_law_1654 ?_
      refine x_top (y := (nI ((wC (sW M)).1))) (w7) ?_
      refine lv_bipush (v := nI 16) hx hb dL_law_1655 (by decide) ?_
      refine y_icmp_ge hx hb (by omega) (Nat.le_of_ble_eq_true rfl) (tgt := 1955) dL_law_1657 (by decide) (fun c1657 => ?_) (fun c1657 => ?_)
      · refine W.widen (k := 200 + 4400 * k + 300) (n := 5000 + 50000 * k + 5400) (by omega) (by omega) ?_
        exact hchk _ _ _ _ ls hPK hR (hI.mono (by omega) (by omega)) hS (lv_sub hl [10, 11, 12, 13, 14, 15, 16, 17, 18, 19, 20, 21] rfl)
      · refine lv_iconst (v := nI 4) hx hb dL_law_1660 (by decide) ?_
        refine lv_aload hx hb dL_law_1661 (lv_at hl 11 rfl) ?_
        refine lv_bipush (v := nI 7) hx hb dL_law_1663 (by decide) ?_
        refine n_ld9 (i := 7) hx hb hK hL (by omega) dL_law_1665 ?_
        refine x_top (y := (nI ((wC (sW M)).1))) (w7) ?_
        refine y_imul hx hb dL_law_1666 ?_
        refine lv_istore (lv' := [(22, .int (nI (4 * ((wC (sW M)).1)))), (21, .int (bI hv)), (20, .int (bI (mAl (sE M) kx))), (19, .int vx), (18, .int (nI px)), (17, .int (handle (sE M) kx)), (16, .int (nI ox)), (15, .int (nI kx)), (14, .int (nI kd9)), (13, .int z), (12, .int x), (11, .int (nI k)), (10, .ref (g + 9)), (9, .ref (g + 8)), (8, .ref (g + 7)), (7, .ref (g + 6)), (6, .ref (g + 5)), (5, .ref (g + 4)), (4, .ref (g + 3)), (3, .ref (g + 2)), (2, .ref (g + 1)), (1, .ref b0), (0, .ref b)]) hx hb dL_law_1667 hl (by decide) rfl (fun ls hl => ?_)
        refine lv_aload hx hb dL_law_1669 (lv_at hl 13 rfl) ?_
        refine lv_iload hx hb dL_law_1671 (lv_at hl 0 rfl) ?_
        refine lv_iload hx hb dL_law_1673 (lv_at hl 9 rfl) ?_
        refine lv_bipush (v := nI 8) hx hb dL_law_1675 (by decide) ?_
        refine lv_ishr hx hb dL_law_1677 ?_
        refine lv_iconst (v := nI 4) hx hb dL_law_1678 (by decide) ?_
        refine k_iN (k_S (As := [.int (z >>> ((nI 8) &&& 31)), .int (nI 4)]) (rest := [.int (nI (4 * ((wC (sW M)).1))), .ref (g + 8)]) ⟨hx, hb, hml, hown, hts⟩ hev hS (c_L_low l (z >>> ((nI 8) &&& 31)) (q := 4) (by decide) (by decide)) (va_cwS 2 hts gL_law_L_low rfl rfl rfl (by decide +kernel) ⟨Nat.le_of_ble_eq_true rfl, Nat.le_of_ble_eq_true rfl⟩) rfl hl.1 (Nat.le_of_ble_eq_true rfl) dL_law_1679 (by show _ ≤ (704995 : Nat); omega) (by show _ ≤ (6986640 : Nat); omega)) hS (fun rq1_ H1 locs1 hP hz1 hS => ?_)
        refine W.widen (k := 200 + 4400 * k) (n := 5000 + 50000 * k) (Nat.le_refl _) (Nat.le_refl _) ?_
        have hPK : PK D T dE b0 (fun q : Nat => s.heap.size ≤ q) g Y M H1 := by rw [hP.1]; exact hPK
        have hL := hPK.sl
        obtain ⟨-, j1, hj1, ej1⟩ := hP
        refine x_top (y := (nI j1)) (ej1) ?_
        refine n_st8 (i := 4 * ((wC (sW M)).1)) (v := (nI j1)) hx hb hK hS hL hAS (by omega) dL_law_1682 (fun H2 locs2 hL hz2 hq2 hS => ?_)
        have hPK := hPK.w hL (Nat.le_of_eq hz2.symm) (fun q _ zz => hq2 q zz)
        obtain ⟨Y2, hPK, hL, hY2⟩ : ∃ Yn, PK D T dE b0 (fun q : Nat => s.heap.size ≤ q) g Yn M H2 ∧ SL T g Yn H2 ∧ Yn = up2 Y 8 (upd (Y 8) (4 * ((wC (sW M)).1)) (nI j1)) := ⟨_, hPK, hL, rfl⟩
        refine lv_aload hx hb dL_law_1683 (lv_at hl 13 rfl) ?_
        refine lv_iload hx hb dL_law_1685 (lv_at hl 0 rfl) ?_
        refine lv_iconst (v := nI 1) hx hb dL_law_1687 (by decide) ?_
        refine y_iadd hx hb dL_law_1688 ?_
        refine lv_iload hx hb dL_law_1689 (lv_at hl 5 rfl) ?_
        refine n_st8 (i := (4 * ((wC (sW M)).1)) + 1) (v := (handle (sE M) kx)) hx hb hK hS hL hAS (by omega) dL_law_1691 (fun H3 locs3 hL hz3 hq3 hS => ?_)
        have hPK := hPK.w hL (Nat.le_of_eq hz3.symm) (fun q _ zz => hq3 q zz)
        obtain ⟨Y3, hPK, hL, hY3⟩ : ∃ Yn, PK D T dE b0 (fun q : Nat => s.heap.size ≤ q) g Yn M H3 ∧ SL T g Yn H3 ∧ Yn = up2 Y2 8 (upd (Y2 8) ((4 * ((wC (sW M)).1)) + 1) (handle (sE M) kx)) := ⟨_, hPK, hL, rfl⟩
        refine lv_aload hx hb dL_law_1692 (lv_at hl 13 rfl) ?_
        refine lv_iload hx hb dL_law_1694 (lv_at hl 0 rfl) ?_
        refine lv_iconst (v := nI 2) hx hb dL_law_1696 (by decide) ?_
        refine y_iadd hx hb dL_law_1697 ?_
        refine lv_iload hx hb dL_law_1698 (lv_at hl 9 rfl) ?_
        refine lv_bipush (v := nI 8) hx hb dL_law_1700 (by decide) ?_
        refine k_iN (k_S (As := [.int z, .int (nI 8)]) (rest := [.int (nI ((4 * ((wC (sW M)).1)) + 2)), .ref (g + 8)]) ⟨hx, hb, hml, hown, hts⟩ hev hS (c_L_low l (z) (q := 8) (by decide) (by decide)) (va_cwS 2 hts gL_law_L_low rfl rfl rfl (by decide +kernel) ⟨Nat.le_of_ble_eq_true rfl, Nat.le_of_ble_eq_true rfl⟩) rfl hl.1 (Nat.le_of_ble_eq_true rfl) dL_law_1702 (by show _ ≤ (704995 : Nat); omega) (by show _ ≤ (6986640 : Nat); omega)) hS (fun rq4_ H4 locs4 hP hz4 hS => ?_)
        refine W.widen (k := 200 + 4400 * k) (n := 5000 + 50000 * k) (Nat.le_refl _) (Nat.le_refl _) ?_
        have hPK : PK D T dE b0 (fun q : Nat => s.heap.size ≤ q) g Y3 M H4 := by rw [hP.1]; exact hPK
        have hL := hPK.sl
        obtain ⟨-, j4, hj4, ej4⟩ := hP
        refine x_top (y := (nI j4)) (ej4) ?_
        refine y_if_ne hx hb (by omega) (tgt := 1713) dL_law_1705 (by decide) (fun c1705 => ?_) (fun c1705 => ?_)
        · refine lv_iload hx hb dL_law_1713 (lv_at hl 4 rfl) ?_
          refine n_st8 (i := (4 * ((wC (sW M)).1)) + 2) (v := (nI px)) hx hb hK hS hL hAS (by omega) dL_law_1715 (fun H5 locs5 hL hz5 hq5 hS => ?_)
          have hPK := hPK.w hL (Nat.le_of_eq hz5.symm) (fun q _ zz => hq5 q zz)
          obtain ⟨Y5, hPK, hL, hY5⟩ : ∃ Yn, PK D T dE b0 (fun q : Nat => s.heap.size ≤ q) g Yn M H5 ∧ SL T g Yn H5 ∧ Yn = up2 Y3 8 (upd (Y3 8) ((4 * ((wC (sW M)).1)) + 2) (nI px)) := ⟨_, hPK, hL, rfl⟩
          refine lv_aload hx hb dL_law_1716 (lv_at hl 13 rfl) ?_
          refine lv_iload hx hb dL_law_1718 (lv_at hl 0 rfl) ?_
          refine lv_iconst (v := nI 3) hx hb dL_law_1720 (by decide) ?_
          refine y_iadd hx hb dL_law_1721 ?_
          refine lv_iload hx hb dL_law_1722 (lv_at hl 3 rfl) ?_
          refine n_st8 (i := (4 * ((wC (sW M)).1)) + 3) (v := vx) hx hb hK hS hL hAS (by omega) dL_law_1724 (fun H6 locs6 hL hz6 hq6 hS => ?_)
          have hPK := hPK.w hL (Nat.le_of_eq hz6.symm) (fun q _ zz => hq6 q zz)
          obtain ⟨Y6, hPK, hL, hY6⟩ : ∃ Yn, PK D T dE b0 (fun q : Nat => s.heap.size ≤ q) g Yn M H6 ∧ SL T g Yn H6 ∧ Yn = up2 Y5 8 (upd (Y5 8) ((4 * ((wC (sW M)).1)) + 3) vx) := ⟨_, hPK, hL, rfl⟩
          refine lv_aload hx hb dL_law_1725 (lv_at hl 12 rfl) ?_
          refine lv_bipush (v := nI 7) hx hb dL_law_1727 (by decide) ?_
          refine lv_dup2_11 hx hb dL_law_1729 rfl rfl ?_
          refine n_ld9 (i := 7) hx hb hK hL (by omega) dL_law_1730 ?_
          refine x_top (y := (nI ((wC (sW M)).1))) (by rw [hY6, hY5, hY3, hY2]; exact w7) ?_
          refine lv_iconst (v := nI 1) hx hb dL_law_1731 (by decide) ?_
          refine y_iadd hx hb dL_law_1732 ?_
          refine n_st9 (i := 7) (v := (nI (((wC (sW M)).1) + 1))) hx hb hK hS hL hAS (by omega) dL_law_1733 (fun H7 locs7 hL hz7 hq7 hS => ?_)
          have hPK := hPK.w hL (Nat.le_of_eq hz7.symm) (fun q _ zz => hq7 q zz)
          obtain ⟨Y7, hPK, hL, hY7⟩ : ∃ Yn, PK D T dE b0 (fun q : Nat => s.heap.size ≤ q) g Yn M H7 ∧ SL T g Yn H7 ∧ Yn = up2 Y6 9 (upd (Y6 9) 7 (nI (((wC (sW M)).1) + 1))) := ⟨_, hPK, hL, rfl⟩
          refine lv_aload_n hx hb dL_law_1734 rfl (lv_at hl 21 rfl) ?_
          refine lv_aload hx hb dL_law_1735 (lv_at hl 13 rfl) ?_
          refine lv_iload hx hb dL_law_1737 (lv_at hl 0 rfl) ?_
          refine n_ld8 (i := 4 * ((wC (sW M)).1)) hx hb hK hL (by omega) dL_law_1739 ?_
          refine x_top (y := (nI j1)) (by rw [hY7, hY6, hY5, hY3, hY2]; exact (upd_n (by omega)).trans ((upd_n (by omega)).trans ((upd_n (by omega)).trans upd_s))) ?_
          refine lv_iload hx hb dL_law_1740 (lv_at hl 5 rfl) ?_
          refine lv_aload hx hb dL_law_1742 (lv_at hl 13 rfl) ?_
          refine lv_iload hx hb dL_law_1744 (lv_at hl 0 rfl) ?_
          refine lv_iconst (v := nI 2) hx hb dL_law_1746 (by decide) ?_
          refine y_iadd hx hb dL_law_1747 ?_
          refine n_ld8 (i := (4 * ((wC (sW M)).1)) + 2) hx hb hK hL (by omega) dL_law_1748 ?_
          refine x_top (y := (nI px)) (by rw [hY7, hY6, hY5, hY3, hY2]; exact (upd_n (by omega)).trans upd_s) ?_
          refine lv_iload hx hb dL_law_1749 (lv_at hl 3 rfl) ?_
          refine k_iN (k_V (As := [.int (nI j1), .int (handle (sE M) kx), .int (nI px), .int vx]) (rest := []) ⟨hx, hb, hml, hown, hts⟩ hev hS (w_defer l hst hPK hI (nI j1) (handle (sE M) kx) (nI px) (vx) (by rw [df_0 hj1 c1558 (by omega)])) (cwV 4 hts gL_law_X6_defer rfl rfl rfl (by decide +kernel) ⟨Nat.le_of_ble_eq_true rfl, Nat.le_of_ble_eq_true rfl⟩) (pk_recv hK hPK) rfl hl.1 (Nat.le_of_ble_eq_true rfl) dL_law_1751 (by show _ ≤ (704995 : Nat); omega) (by show _ ≤ (6986640 : Nat); omega)) hS (fun rq8_ H8 locs8 hP hz8 hS => ?_)
          rw [df_0 hj1 c1558 (by omega)] at hP
          have er := hP.1
          have hPK := hP.2
          have hL := hPK.sl
          refine x_top (y := (nI ((wC (sW M)).1 + 1))) (er) ?_
          have hI8 : Inv (800 * (k + 1)) (wW M (true, (wN (sW M), wA (sW M), wTold (sW M)), cAdd (wC (sW M)) (nI j1) (handle (sE M) kx) (nI px) vx)) := by have := i_defer hI (nI j1) (handle (sE M) kx) (nI px) vx; rw [df_0 hj1 c1558 (by omega)] at this; exact this.mono (by omega) (by omega)
          have hW8 : LWk Y7 (sE M) (true, (wN (sW M), wA (sW M), wTold (sW M)), cAdd (wC (sW M)) (nI j1) (handle (sE M) kx) (nI px) vx) := by
            rw [hY7, hY6, hY5, hY3, hY2]
            refine ⟨hW.1.trans (congrArg bI c1558), fun _ => ⟨w5, w6, rfl, (show (wC (sW M)).1 + 1 ≤ 16 by omega), w10, wh, fun i hi => ?_⟩⟩
            have hi : i < (wC (sW M)).1 + 1 := hi
            show upd (upd (upd (upd (Y 8) _ _) _ _) _ _) _ _ (4 * i) = nu _ _ _ i ∧ upd (upd (upd (upd (Y 8) _ _) _ _) _ _) _ _ (4 * i + 1) = nu _ _ _ i ∧ upd (upd (upd (upd (Y 8) _ _) _ _) _ _) _ _ (4 * i + 2) = nu _ _ _ i ∧ upd (upd (upd (upd (Y 8) _ _) _ _) _ _) _ _ (4 * i + 3) = nu _ _ _ i
            by_cases ci : i = (wC (sW M)).1
            · rw [ci, nu_s, nu_s, nu_s, nu_s]
              exact ⟨(upd_n (by omega)).trans ((upd_n (by omega)).trans ((upd_n (by omega)).trans upd_s)), (upd_n (by omega)).trans ((upd_n (by omega)).trans upd_s), (upd_n (by omega)).trans upd_s, upd_s⟩
            · rw [nu_n ci, nu_n ci, nu_n ci, nu_n ci, upd_n (by omega), upd_n (by omega), upd_n (by omega), upd_n (by omega), upd_n (by omega), upd_n (by omega), upd_n (by omega), upd_n (by omega), upd_n (by omega), upd_n (by omega), upd_n (by omega), upd_n (by omega), upd_n (by omega), upd_n (by omega), upd_n (by omega), upd_n (by omega)]
              exact wc i (by omega)
          have hR8 : LRel Y7 (wW M (true, (wN (sW M), wA (sW M), wTold (sW M)), cAdd (wC (sW M)) (nI j1) (handle (sE M) kx) (nI px) vx)) := hR.w hW8 (fun j h7 h8 h9 => by rw [hY7, hY6, hY5, hY3, hY2]; simp only [up2, if_neg h8, if_neg h9]) (fun i hi => by rw [hY7, hY6, hY5, hY3, hY2]; exact upd_n (by omega))
          refine lv_aload hx hb dL_law_1754 (lv_at hl 12 rfl) ?_
          refine lv_bipush (v := nI 7) hx hb dL_law_1756 (by decide) ?_
          refine n_ld9 (i := 7) hx hb hK hL (by omega) dL_law_1758 ?_
          refine x_top (y := (nI ((wC (sW M)).1 + 1))) (by rw [hY7]; rfl) ?_
          refine y_icmp_eq hx hb (by omega) (by omega) (tgt := 1764) dL_law_1759 (by decide) (fun c1759 => ?_) (fun c1759 => ?_)
          · refine lv_goto (tgt := 1955) hx hb dL_law_1764 (by decide) ?_
            refine W.widen (k := 200 + 4400 * k + 300) (n := 5000 + 50000 * k + 5400) (by omega) (by omega) ?_
            exact hchk _ _ _ _ ls hPK hR8 hI8 hS (lv_sub hl [11, 12, 13, 14, 15, 16, 17, 18, 19, 20, 21, 22] rfl)
          · exact absurd rfl c1759
        · refine lv_bipush (v := nI 6) hx hb dL_law_1708 (by decide) ?_
          refine lv_goto (tgt := 1715) hx hb dL_law_1710 (by decide) ?_
          refine n_st8 (i := (4 * ((wC (sW M)).1)) + 2) (v := (nI 6)) hx hb hK hS hL hAS (by omega) dL_law_1715 (fun H9 locs9 hL hz9 hq9 hS => ?_)
          have hPK := hPK.w hL (Nat.le_of_eq hz9.symm) (fun q _ zz => hq9 q zz)
          obtain ⟨Y9, hPK, hL, hY9⟩ : ∃ Yn, PK D T dE b0 (fun q : Nat => s.heap.size ≤ q) g Yn M H9 ∧ SL T g Yn H9 ∧ Yn = up2 Y3 8 (upd (Y3 8) ((4 * ((wC (sW M)).1)) + 2) (nI 6)) := ⟨_, hPK, hL, rfl⟩
          refine lv_aload hx hb dL_law_1716 (lv_at hl 13 rfl) ?_
          refine lv_iload hx hb dL_law_1718 (lv_at hl 0 rfl) ?_
          refine lv_iconst (v := nI 3) hx hb dL_law_1720 (by decide) ?_
          refine y_iadd hx hb dL_law_1721 ?_
          refine lv_iload hx hb dL_law_1722 (lv_at hl 3 rfl) ?_
          refine n_st8 (i := (4 * ((wC (sW M)).1)) + 3) (v := vx) hx hb hK hS hL hAS (by omega) dL_law_1724 (fun H10 locs10 hL hz10 hq10 hS => ?_)
          have hPK := hPK.w hL (Nat.le_of_eq hz10.symm) (fun q _ zz => hq10 q zz)
          obtain ⟨Y10, hPK, hL, hY10⟩ : ∃ Yn, PK D T dE b0 (fun q : Nat => s.heap.size ≤ q) g Yn M H10 ∧ SL T g Yn H10 ∧ Yn = up2 Y9 8 (upd (Y9 8) ((4 * ((wC (sW M)).1)) + 3) vx) := ⟨_, hPK, hL, rfl⟩
          refine lv_aload hx hb dL_law_1725 (lv_at hl 12 rfl) ?_
          refine lv_bipush (v := nI 7) hx hb dL_law_1727 (by decide) ?_
          refine lv_dup2_11 hx hb dL_law_1729 rfl rfl ?_
          refine n_ld9 (i := 7) hx hb hK hL (by omega) dL_law_1730 ?_
          refine x_top (y := (nI ((wC (sW M)).1))) (by rw [hY10, hY9, hY3, hY2]; exact w7) ?_
          refine lv_iconst (v := nI 1) hx hb dL_law_1731 (by decide) ?_
          refine y_iadd hx hb dL_law_1732 ?_
          refine n_st9 (i := 7) (v := (nI (((wC (sW M)).1) + 1))) hx hb hK hS hL hAS (by omega) dL_law_1733 (fun H11 locs11 hL hz11 hq11 hS => ?_)
          have hPK := hPK.w hL (Nat.le_of_eq hz11.symm) (fun q _ zz => hq11 q zz)
          obtain ⟨Y11, hPK, hL, hY11⟩ : ∃ Yn, PK D T dE b0 (fun q : Nat => s.heap.size ≤ q) g Yn M H11 ∧ SL T g Yn H11 ∧ Yn = up2 Y10 9 (upd (Y10 9) 7 (nI (((wC (sW M)).1) + 1))) := ⟨_, hPK, hL, rfl⟩
          refine lv_aload_n hx hb dL_law_1734 rfl (lv_at hl 21 rfl) ?_
          refine lv_aload hx hb dL_law_1735 (lv_at hl 13 rfl) ?_
          refine lv_iload hx hb dL_law_1737 (lv_at hl 0 rfl) ?_
          refine n_ld8 (i := 4 * ((wC (sW M)).1)) hx hb hK hL (by omega) dL_law_1739 ?_
          refine x_top (y := (nI j1)) (by rw [hY11, hY10, hY9, hY3, hY2]; exact (upd_n (by omega)).trans ((upd_n (by omega)).trans ((upd_n (by omega)).trans upd_s))) ?_
          refine lv_iload hx hb dL_law_1740 (lv_at hl 5 rfl) ?_
          refine lv_aload hx hb dL_law_1742 (lv_at hl 13 rfl) ?_
          refine lv_iload hx hb dL_law_1744 (lv_at hl 0 rfl) ?_
          refine lv_iconst (v := nI 2) hx hb dL_law_1746 (by decide) ?_
          refine y_iadd hx hb dL_law_1747 ?_
          refine n_ld8 (i := (4 * ((wC (sW M)).1)) + 2) hx hb hK hL (by omega) dL_law_1748 ?_
          refine x_top (y := (nI 6)) (by rw [hY11, hY10, hY9, hY3, hY2]; exact (upd_n (by omega)).trans upd_s) ?_
          refine lv_iload hx hb dL_law_1749 (lv_at hl 3 rfl) ?_
          refine k_iN (k_V (As := [.int (nI j1), .int (handle (sE M) kx), .int (nI 6), .int vx]) (rest := []) ⟨hx, hb, hml, hown, hts⟩ hev hS (w_defer l hst hPK hI (nI j1) (handle (sE M) kx) (nI 6) (vx) (by rw [df_0 hj1 c1558 (by omega)])) (cwV 4 hts gL_law_X6_defer rfl rfl rfl (by decide +kernel) ⟨Nat.le_of_ble_eq_true rfl, Nat.le_of_ble_eq_true rfl⟩) (pk_recv hK hPK) rfl hl.1 (Nat.le_of_ble_eq_true rfl) dL_law_1751 (by show _ ≤ (704995 : Nat); omega) (by show _ ≤ (6986640 : Nat); omega)) hS (fun rq12_ H12 locs12 hP hz12 hS => ?_)
          rw [df_0 hj1 c1558 (by omega)] at hP
          have er := hP.1
          have hPK := hP.2
          have hL := hPK.sl
          refine x_top (y := (nI ((wC (sW M)).1 + 1))) (er) ?_
          have hI8 : Inv (800 * (k + 1)) (wW M (true, (wN (sW M), wA (sW M), wTold (sW M)), cAdd (wC (sW M)) (nI j1) (handle (sE M) kx) (nI 6) vx)) := by have := i_defer hI (nI j1) (handle (sE M) kx) (nI 6) vx; rw [df_0 hj1 c1558 (by omega)] at this; exact this.mono (by omega) (by omega)
          have hW8 : LWk Y11 (sE M) (true, (wN (sW M), wA (sW M), wTold (sW M)), cAdd (wC (sW M)) (nI j1) (handle (sE M) kx) (nI 6) vx) := by
            rw [hY11, hY10, hY9, hY3, hY2]
            refine ⟨hW.1.trans (congrArg bI c1558), fun _ => ⟨w5, w6, rfl, (show (wC (sW M)).1 + 1 ≤ 16 by omega), w10, wh, fun i hi => ?_⟩⟩
            have hi : i < (wC (sW M)).1 + 1 := hi
            show upd (upd (upd (upd (Y 8) _ _) _ _) _ _) _ _ (4 * i) = nu _ _ _ i ∧ upd (upd (upd (upd (Y 8) _ _) _ _) _ _) _ _ (4 * i + 1) = nu _ _ _ i ∧ upd (upd (upd (upd (Y 8) _ _) _ _) _ _) _ _ (4 * i + 2) = nu _ _ _ i ∧ upd (upd (upd (upd (Y 8) _ _) _ _) _ _) _ _ (4 * i + 3) = nu _ _ _ i
            by_cases ci : i = (wC (sW M)).1
            · rw [ci, nu_s, nu_s, nu_s, nu_s]
              exact ⟨(upd_n (by omega)).trans ((upd_n (by omega)).trans ((upd_n (by omega)).trans upd_s)), (upd_n (by omega)).trans ((upd_n (by omega)).trans upd_s), (upd_n (by omega)).trans upd_s, upd_s⟩
            · rw [nu_n ci, nu_n ci, nu_n ci, nu_n ci, upd_n (by omega), upd_n (by omega), upd_n (by omega), upd_n (by omega), upd_n (by omega), upd_n (by omega), upd_n (by omega), upd_n (by omega), upd_n (by omega), upd_n (by omega), upd_n (by omega), upd_n (by omega), upd_n (by omega), upd_n (by omega), upd_n (by omega), upd_n (by omega)]
              exact wc i (by omega)
          have hR8 : LRel Y11 (wW M (true, (wN (sW M), wA (sW M), wTold (sW M)), cAdd (wC (sW M)) (nI j1) (handle (sE M) kx) (nI 6) vx)) := hR.w hW8 (fun j h7 h8 h9 => by rw [hY11, hY10, hY9, hY3, hY2]; simp only [up2, if_neg h8, if_neg h9]) (fun i hi => by rw [hY11, hY10, hY9, hY3, hY2]; exact upd_n (by omega))
          refine lv_aload hx hb dL_law_1754 (lv_at hl 12 rfl) ?_
          refine lv_bipush (v := nI 7) hx hb dL_law_1756 (by decide) ?_
          refine n_ld9 (i := 7) hx hb hK hL (by omega) dL_law_1758 ?_
          refine x_top (y := (nI ((wC (sW M)).1 + 1))) (by rw [hY11]; rfl) ?_
          refine y_icmp_eq hx hb (by omega) (by omega) (tgt := 1764) dL_law_1759 (by decide) (fun c1759 => ?_) (fun c1759 => ?_)
          · refine lv_goto (tgt := 1955) hx hb dL_law_1764 (by decide) ?_
            refine W.widen (k := 200 + 4400 * k + 300) (n := 5000 + 50000 * k + 5400) (by omega) (by omega) ?_
            exact hchk _ _ _ _ ls hPK hR8 hI8 hS (lv_sub hl [11, 12, 13, 14, 15, 16, 17, 18, 19, 20, 21, 22] rfl)
          · exact absurd rfl c1759
    · refine lv_aload hx hb dL_law_1594 (lv_at hl 11 rfl) ?_
      refine lv_iconst (v := nI 5) hx hb dL_law_1596 (by decide) ?_
      refine n_ld9 (i := 5) hx hb hK hL (by omega) dL_law_1597 ?_
      refine x_top (y := (nI (wTold (sW M)))) (w5) ?_
      refine lv_aload hx hb dL_law_1598 (lv_at hl 11 rfl) ?_
      refine lv_bipush (v := nI 6) hx hb dL_law_1600 (by decide) ?_
      refine n_ld9 (i := 6) hx hb hK hL (by omega) dL_law_1602 ?_
      refine x_top (y := (nI (wN (sW M)))) (w6) ?_
      refine y_icmp_ne hx hb (by omega) (by omega) (tgt := 1610) dL_law_1603 (by decide) (fun c1603 => ?_) (fun c1603 => ?_)
      · have hlt : wTold (sW M) < wN (sW M) := by omega
        refine lv_aload hx hb dL_law_1610 (lv_at hl 13 rfl) ?_
        refine lv_aload hx hb dL_law_1612 (lv_at hl 11 rfl) ?_
        refine lv_iconst (v := nI 5) hx hb dL_law_1614 (by decide) ?_
        refine n_ld9 (i := 5) hx hb hK hL (by omega) dL_law_1615 ?_
        refine x_top (y := (nI (wTold (sW M)))) (w5) ?_
        refine n_ld7 (i := wTold (sW M)) hx hb hK hL (by omega) dL_law_1616 ?_
        refine x_top (y := (handle (sE M) (wA (sW M) (wTold (sW M))))) (wh _ hlt) ?_
        have hwk32 := iW.2.2.2.1 (wTold (sW M)) hlt
        have hwkh := hh (wA (sW M) (wTold (sW M)))
        obtain ⟨wk9, hwk9⟩ : ∃ q, q = wA (sW M) (wTold (sW M)) + 32 * mHad (sE M) (wA (sW M) (wTold (sW M))) := ⟨_, rfl⟩
        have hwk : nI wk9 = handle (sE M) (wA (sW M) (wTold (sW M))) := by rw [hwk9]; rfl
        have hwk31 : wk9 < 2 ^ 31 := by omega
        refine x_top (y := (nI wk9)) (hwk.symm) ?_
        refine lv_istore (lv' := [(22, .int (nI wk9)), (21, .int (bI hv)), (20, .int (bI (mAl (sE M) kx))), (19, .int vx), (18, .int (nI px)), (17, .int (handle (sE M) kx)), (16, .int (nI ox)), (15, .int (nI kx)), (14, .int (nI kd9)), (13, .int z), (12, .int x), (11, .int (nI k)), (10, .ref (g + 9)), (9, .ref (g + 8)), (8, .ref (g + 7)), (7, .ref (g + 6)), (6, .ref (g + 5)), (5, .ref (g + 4)), (4, .ref (g + 3)), (3, .ref (g + 2)), (2, .ref (g + 1)), (1, .ref b0), (0, .ref b)]) hx hb dL_law_1617 hl (by decide) rfl (fun ls hl => ?_)
        refine lv_aload hx hb dL_law_1619 (lv_at hl 12 rfl) ?_
        refine lv_iconst (v := nI 5) hx hb dL_law_1621 (by decide) ?_
        refine lv_dup2_11 hx hb dL_law_1622 rfl rfl ?_
        refine n_ld9 (i := 5) hx hb hK hL (by omega) dL_law_1623 ?_
        refine x_top (y := (nI (wTold (sW M)))) (w5) ?_
        refine lv_iload hx hb dL_law_1624 (lv_at hl 0 rfl) ?_
        refine y_if_ge hx hb (by omega) (tgt := 1633) dL_law_1626 (by decide) (fun c1626 => ?_) (fun c1626 => ?_)
        · refine lv_iconst (v := nI 1) hx hb dL_law_1633 (by decide) ?_
          refine y_iadd hx hb dL_law_1634 ?_
          refine n_st9 (i := 5) (v := (nI ((wTold (sW M)) + 1))) hx hb hK hS hL hAS (by omega) dL_law_1635 (fun H13 locs13 hL hz13 hq13 hS => ?_)
          have hPK := hPK.w hL (Nat.le_of_eq hz13.symm) (fun q _ zz => hq13 q zz)
          obtain ⟨Y13, hPK, hL, hY13⟩ : ∃ Yn, PK D T dE b0 (fun q : Nat => s.heap.size ≤ q) g Yn M H13 ∧ SL T g Yn H13 ∧ Yn = up2 Y 9 (upd (Y 9) 5 (nI ((wTold (sW M)) + 1))) := ⟨_, hPK, hL, rfl⟩
          refine lv_aload_n hx hb dL_law_1636 rfl (lv_at hl 21 rfl) ?_
          refine k_iN (k_V (As := []) (rest := []) ⟨hx, hb, hml, hown, hts⟩ hev hS (w_next l hst hPK hI (by rw [nx_0 c1558 c1603])) (cwV 0 hts gL_law_X6_next rfl rfl rfl (by decide +kernel) ⟨Nat.le_of_ble_eq_true rfl, Nat.le_of_ble_eq_true rfl⟩) (pk_recv hK hPK) rfl hl.1 (Nat.le_of_ble_eq_true rfl) dL_law_1637 (by show _ ≤ (704995 : Nat); omega) (by show _ ≤ (6986640 : Nat); omega)) hS (fun rq14_ H14 locs14 hP hz14 hS => ?_)
          rw [nx_0 c1558 c1603] at hP
          have er := hP.1
          have hPK := hP.2
          have hL := hPK.sl
          refine x_top (y := (nI wk9)) (er.trans hwk.symm) ?_
          have hI8 : Inv (800 * (k + 1)) (wW M (true, (wN (sW M), wA (sW M), wTold (sW M) + 1), wC (sW M))) := by have := i_next hI; rw [nx_0 c1558 c1603] at this; exact this.mono (by omega) (by omega)
          have hR8 : LRel Y13 (wW M (true, (wN (sW M), wA (sW M), wTold (sW M) + 1), wC (sW M))) := hR.w ⟨by rw [hY13]; exact hW.1.trans (congrArg bI c1558), fun _ => ⟨by rw [hY13]; rfl, by rw [hY13]; exact w6, by rw [hY13]; exact w7, w16, w10, fun i hi => by rw [hY13]; exact wh i hi, fun i hi => by rw [hY13]; exact wc i hi⟩⟩ (fun j h7 h8 h9 => by rw [hY13]; simp only [up2, if_neg h9]) (fun i hi => by rw [hY13]; exact upd_n (by omega))
          refine lv_iload hx hb dL_law_1640 (lv_at hl 0 rfl) ?_
          refine y_icmp_eq hx hb (by omega) (by omega) (tgt := 1647) dL_law_1642 (by decide) (fun c1642 => ?_) (fun c1642 => ?_)
          · refine lv_goto (tgt := 1955) hx hb dL_law_1647 (by decide) ?_
            refine W.widen (k := 200 + 4400 * k + 300) (n := 5000 + 50000 * k + 5400) (by omega) (by omega) ?_
            exact hchk _ _ _ _ ls hPK hR8 hI8 hS (lv_sub hl [11, 12, 13, 14, 15, 16, 17, 18, 19, 20, 21, 22] rfl)
          · exact absurd rfl c1642
        · exact c1626.elim
      · refine lv_iconst (v := -1) hx hb dL_law_1606 (by decide) ?_
        refine lv_goto (tgt := 1617) hx hb dL_law_1607 (by decide) ?_
        refine lv_istore (lv' := [(22, .int ((-1))), (21, .int (bI hv)), (20, .int (bI (mAl (sE M) kx))), (19, .int vx), (18, .int (nI px)), (17, .int (handle (sE M) kx)), (16, .int (nI ox)), (15, .int (nI kx)), (14, .int (nI kd9)), (13, .int z), (12, .int x), (11, .int (nI k)), (10, .ref (g + 9)), (9, .ref (g + 8)), (8, .ref (g + 7)), (7, .ref (g + 6)), (6, .ref (g + 5)), (5, .ref (g + 4)), (4, .ref (g + 3)), (3, .ref (g + 2)), (2, .ref (g + 1)), (1, .ref b0), (0, .ref b)]) hx hb dL_law_1617 hl (by decide) rfl (fun ls hl => ?_)
        refine lv_aload hx hb dL_law_1619 (lv_at hl 12 rfl) ?_
        refine lv_iconst (v := nI 5) hx hb dL_law_1621 (by decide) ?_
        refine lv_dup2_11 hx hb dL_law_1622 rfl rfl ?_
        refine n_ld9 (i := 5) hx hb hK hL (by omega) dL_law_1623 ?_
        refine x_top (y := (nI (wTold (sW M)))) (w5) ?_
        refine lv_iload hx hb dL_law_1624 (lv_at hl 0 rfl) ?_
        refine lv_if_ge (tgt := 1633) hx hb dL_law_1626 (by decide) (fun c1626 => ?_) (fun c1626 => ?_)
        · exact absurd c1626 (by decide)
        · refine lv_iconst (v := nI 0) hx hb dL_law_1629 (by decide) ?_
          refine lv_goto (tgt := 1634) hx hb dL_law_1630 (by decide) ?_
          refine y_iadd hx hb dL_law_1634 ?_
          refine n_st9 (i := 5) (v := (nI ((wTold (sW M)) + 0))) hx hb hK hS hL hAS (by omega) dL_law_1635 (fun H15 locs15 hL hz15 hq15 hS => ?_)
          have hPK := hPK.w hL (Nat.le_of_eq hz15.symm) (fun q _ zz => hq15 q zz)
          obtain ⟨Y15, hPK, hL, hY15⟩ : ∃ Yn, PK D T dE b0 (fun q : Nat => s.heap.size ≤ q) g Yn M H15 ∧ SL T g Yn H15 ∧ Yn = up2 Y 9 (upd (Y 9) 5 (nI ((wTold (sW M)) + 0))) := ⟨_, hPK, hL, rfl⟩
          refine lv_aload_n hx hb dL_law_1636 rfl (lv_at hl 21 rfl) ?_
          refine k_iN (k_V (As := []) (rest := []) ⟨hx, hb, hml, hown, hts⟩ hev hS (w_next l hst hPK hI (by rw [nx_e c1558 c1603])) (cwV 0 hts gL_law_X6_next rfl rfl rfl (by decide +kernel) ⟨Nat.le_of_ble_eq_true rfl, Nat.le_of_ble_eq_true rfl⟩) (pk_recv hK hPK) rfl hl.1 (Nat.le_of_ble_eq_true rfl) dL_law_1637 (by show _ ≤ (704995 : Nat); omega) (by show _ ≤ (6986640 : Nat); omega)) hS (fun rq16_ H16 locs16 hP hz16 hS => ?_)
          rw [nx_e c1558 c1603] at hP
          have er := hP.1
          have hPK := hP.2
          have hL := hPK.sl
          refine x_top (y := ((-1))) (er) ?_
          have hI8 : Inv (800 * (k + 1)) M := hI.mono (by omega) (by omega)
          have hR8 : LRel Y15 (wW M (sW M)) := hR.w (W1 := sW M) (hW.keep rfl (by rw [hY15]; rfl) (by rw [hY15]; rfl) (fun i h4 _ => by rw [hY15]; show upd (Y 9) 5 _ i = _; by_cases c : i = 5; rw [c, upd_s, w5]; rfl; exact upd_n c)) (fun j h7 h8 h9 => by rw [hY15]; simp only [up2, if_neg h9]) (fun i hi => by rw [hY15]; exact upd_n (by omega))
          refine lv_iload hx hb dL_law_1640 (lv_at hl 0 rfl) ?_
          refine lv_icmp_eq (tgt := 1647) hx hb dL_law_1642 (by decide) (fun c1642 => ?_) (fun c1642 => ?_)
          · refine lv_goto (tgt := 1955) hx hb dL_law_1647 (by decide) ?_
            refine W.widen (k := 200 + 4400 * k + 300) (n := 5000 + 50000 * k + 5400) (by omega) (by omega) ?_
            exact hchk _ _ _ _ ls hPK hR8 hI8 hS (lv_sub hl [11, 12, 13, 14, 15, 16, 17, 18, 19, 20, 21, 22] rfl)
          · exact absurd rfl c1642
  · refine lv_aload_n hx hb dL_law_1561 rfl (lv_at hl 20 rfl) ?_
    refine lv_iload hx hb dL_law_1562 (lv_at hl 7 rfl) ?_
    refine lv_iconst (v := nI 2) hx hb dL_law_1564 (by decide) ?_
    refine y_irem hx hb (by omega) (by omega) (by omega) dL_law_1565 ?_
    refine y_if_ne hx hb (by omega) (tgt := 1574) dL_law_1566 (by decide) (fun c1566 => ?_) (fun c1566 => ?_)
    · refine lv_bipush (v := nI 13) hx hb dL_law_1574 (by decide) ?_
      refine lv_iconst (v := nI 1) hx hb dL_law_1576 (by decide) ?_
      refine lv_iconst (v := nI 0) hx hb dL_law_1577 (by decide) ?_
      refine k_iN (k_SW (As := [.ref b0, .int (nI 13), .int (nI 1), .int (nI 0)]) (rest := []) ⟨hx, hb, hml, hown, hts⟩ hev hS (r_L13 l hst hPK hI (nI 1) (nI 0) (w := 3) (by rw [df_2 (by decide) c1558]; show ¬ (2 : Nat) = 0; decide) (by rw [df_2 (by decide) c1558]; rfl)) (vx_cwSW 4 hts gL_law_L_refused rfl rfl rfl (by decide +kernel) ⟨Nat.le_of_ble_eq_true rfl, Nat.le_of_ble_eq_true rfl⟩) rfl hl.1 (Nat.le_of_ble_eq_true rfl) dL_law_1578 (by show _ ≤ (704995 : Nat); omega) (by show _ ≤ (6986640 : Nat); omega)) hS (fun rq17_ H17 locs17 hP hz17 hS => ?_)
      have er := hP.1
      have hPK := hP.2
      have hL := hPK.sl
      refine x_top (y := (nI 3)) (er) ?_
      refine lv_iconst (v := nI 3) hx hb dL_law_1581 (by decide) ?_
      refine y_icmp_eq hx hb (by decide) (by decide) (tgt := 1986) dL_law_1582 (by decide) (fun c1582 => ?_) (fun c1582 => ?_)
      · refine W.widen (k := 200 + 4400 * (k + 1)) (n := 5000 + 50000 * (k + 1)) (by omega) (by omega) ?_
        exact hnxt _ _ _ _ ls hPK hR (hI.mono (by omega) (by omega)) hS (lv_sub hl [10, 11, 12, 13, 14, 15, 16, 17, 18, 19, 20, 21] rfl)
      · exact absurd c1582 (by decide)
    · refine lv_bipush (v := nI 12) hx hb dL_law_1569 (by decide) ?_
      refine lv_goto (tgt := 1576) hx hb dL_law_1571 (by decide) ?_
      refine lv_iconst (v := nI 1) hx hb dL_law_1576 (by decide) ?_
      refine lv_iconst (v := nI 0) hx hb dL_law_1577 (by decide) ?_
      refine k_iN (k_SW (As := [.ref b0, .int (nI 12), .int (nI 1), .int (nI 0)]) (rest := []) ⟨hx, hb, hml, hown, hts⟩ hev hS (r_L12 l hst hPK hI (nI 1) (nI 0) (w := 3) (by rw [nx_1 c1558]; show ¬ (1 : Nat) = 0; decide) (by rw [nx_1 c1558]; rfl)) (vx_cwSW 4 hts gL_law_L_refused rfl rfl rfl (by decide +kernel) ⟨Nat.le_of_ble_eq_true rfl, Nat.le_of_ble_eq_true rfl⟩) rfl hl.1 (Nat.le_of_ble_eq_true rfl) dL_law_1578 (by show _ ≤ (704995 : Nat); omega) (by show _ ≤ (6986640 : Nat); omega)) hS (fun rq18_ H18 locs18 hP hz18 hS => ?_)
      have er := hP.1
      have hPK := hP.2
      have hL := hPK.sl
      refine x_top (y := (nI 3)) (er) ?_
      refine lv_iconst (v := nI 3) hx hb dL_law_1581 (by decide) ?_
      refine y_icmp_eq hx hb (by decide) (by decide) (tgt := 1986) dL_law_1582 (by decide) (fun c1582 => ?_) (fun c1582 => ?_)
      · refine W.widen (k := 200 + 4400 * (k + 1)) (n := 5000 + 50000 * (k + 1)) (by omega) (by omega) ?_
        exact hnxt _ _ _ _ ls hPK hR (hI.mono (by omega) (by omega)) hS (lv_sub hl [10, 11, 12, 13, 14, 15, 16, 17, 18, 19, 20, 21] rfl)
      · exact absurd c1582 (by decide)

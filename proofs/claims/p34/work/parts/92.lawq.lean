/-! questions, systems, runs, walks -/
theorem LTw.same {Y Y1 : Nat → Nat → Int32} {E : mE} {R : mR} (h : LTw Y E R) (e1 : Y1 1 = Y 1) (e2 : Y1 2 = Y 2) (e3 : Y1 3 = Y 3) (e4 : Y1 4 = Y 4) (e9 : Y1 9 0 = Y 9 0) : LTw Y1 E R := ⟨h.1.same e1 e2 e3, h.2.1.cong rfl rfl e9 e4, by rw [e1]; exact h.2.2⟩
theorem LRel.q {Y Y1 : Nat → Nat → Int32} {M : mSt} {Q1 : mQ} (h : LRel Y M) (hQ : LQ Y1 Q1) (hj : ∀ j, j ≠ 5 → j ≠ 9 → Y1 j = Y j) (hi : ∀ i, i ≠ 2 → Y1 9 i = Y 9 i) : LRel Y1 (wQ M Q1) :=
  ⟨h.1.same (hj 1 (by decide) (by decide)) (hj 2 (by decide) (by decide)) (hj 3 (by decide) (by decide)) (hj 4 (by decide) (by decide)) (hi 0 (by decide)), hQ, h.2.2.1.same (hj 6 (by decide) (by decide)) (hi 3 (by decide)), (hi 1 (by decide)).trans h.2.2.2.1, h.2.2.2.2.keep rfl (hj 7 (by decide) (by decide)) (hj 8 (by decide) (by decide)) (fun i h4 _ => hi i (by omega))⟩
theorem LRel.y {Y Y1 : Nat → Nat → Int32} {M : mSt} {Z1 : mQ} (h : LRel Y M) (hZ : LYs Y1 Z1) (hj : ∀ j, j ≠ 6 → j ≠ 9 → Y1 j = Y j) (hi : ∀ i, i ≠ 3 → Y1 9 i = Y 9 i) : LRel Y1 (wY M Z1) :=
  ⟨h.1.same (hj 1 (by decide) (by decide)) (hj 2 (by decide) (by decide)) (hj 3 (by decide) (by decide)) (hj 4 (by decide) (by decide)) (hi 0 (by decide)), h.2.1.same (hj 5 (by decide) (by decide)) (hi 2 (by decide)), hZ, (hi 1 (by decide)).trans h.2.2.2.1, h.2.2.2.2.keep rfl (hj 7 (by decide) (by decide)) (hj 8 (by decide) (by decide)) (fun i h4 _ => hi i (by omega))⟩
theorem LYs.add {Y Y1 : Nat → Nat → Int32} {Z : mQ} {a o y : Nat} (h : LYs Y Z) (e3 : Y1 9 3 = nI (Z.1 + 1)) (h0 : Y1 6 (3 * Z.1) = nI a) (h1 : Y1 6 (3 * Z.1 + 1) = nI o) (h2 : Y1 6 (3 * Z.1 + 2) = nI y) (e6 : ∀ j, j < 3 * Z.1 → Y1 6 j = Y 6 j) : LYs Y1 (Z.1 + 1, nu Z.2.1 Z.1 a, nu Z.2.2.1 Z.1 o, nu Z.2.2.2 Z.1 y) := by
  refine ⟨e3, fun i hi => ?_⟩
  have hi : i < Z.1 + 1 := hi
  show Y1 6 (3 * i) = nI (nu Z.2.1 Z.1 a i) ∧ Y1 6 (3 * i + 1) = nI (nu Z.2.2.1 Z.1 o i) ∧ Y1 6 (3 * i + 2) = nI (nu Z.2.2.2 Z.1 y i)
  by_cases c : i = Z.1
  · rw [c, nu_s, nu_s, nu_s]; exact ⟨h0, h1, h2⟩
  · rw [nu_n c, nu_n c, nu_n c, e6 _ (by omega), e6 _ (by omega), e6 _ (by omega)]
    exact h.2 i (by omega)
theorem sy_0 {M : mSt} {a o : Nat} (ha : a < 64) (ho : o < 64) (h : (sY M).1 ≠ 8) : oSystem M (nI a) (nI o) = (0, nI (stgTo (sY M) a o (sY M).1), wY M ((sY M).1 + 1, nu (sY M).2.1 (sY M).1 a, nu (sY M).2.2.1 (sY M).1 o, nu (sY M).2.2.2 (sY M).1 (stgTo (sY M) a o (sY M).1))) := by
  unfold oSystem
  rw [if_neg (fun z => by rw [isS_nI ha, isS_nI ho] at z; rcases z with z | z <;> cases z), if_neg h, ix_nI (by omega), ix_nI (by omega)]
theorem st_0 {M : mSt} {j : Nat} (h : j < (sY M).1) (h8 : (sY M).1 ≤ 8) : oStage M (nI j) = oRet M (nI ((sY M).2.2.2 j)) := by unfold oStage; rw [inBt h (by omega), ix_nI (by omega)]
theorem wk_1 {M : mSt} (h : (sQ M).1 = 0) : oWalk M (nI 0) = oErr M 1 := by unfold oWalk; exact if_pos (by rw [h]; decide)
theorem wk_2 {M : mSt} {j : Nat} (h : j < (sQ M).1) (h8 : (sQ M).1 ≤ 8) (hw : wOn (sW M) = true) : oWalk M (nI j) = oErr M 2 := by unfold oWalk; rw [if_neg (by rw [inB_nI h (by omega)]; decide), if_pos hw]
theorem wk_0 {M : mSt} {j : Nat} (h : j < (sQ M).1) (h8 : (sQ M).1 ≤ 8) (hw : wOn (sW M) = false) : oWalk M (nI j) = (0, nI (aN (sQ M) (sR M) j), wW M (true, (aN (sQ M) (sR M) j, fun p => (aP (sQ M) (sR M) j p).getD 0, 0), mC0)) := by
  unfold oWalk; rw [if_neg (by rw [inB_nI h (by omega)]; decide), if_neg (by rw [hw]; decide), ix_nI (by omega)]
theorem aN_10 {E : mE} {Q : mQ} {R : mR} (iE : InvE E) (iR : InvR E R) (h10 : ∀ k, mAl E k = true → k < 10) (q : Nat) : aN Q R q ≤ 10 := by
  rw [← one_cnt (Q := Q) iE iR q, cnt_10 (fun k hk => by cases z : mAl E k; rfl; have := h10 k z; omega) 32 (by decide)]
  exact cnt_le _ 10
/-- what a walk writes down -/
def WI (E : mE) (f : Nat → Nat) (Yb Y9 : Nat → Nat → Int32) (x : Nat) : Prop := (∀ j, j ≠ 7 → j ≠ 9 → Y9 j = Yb j) ∧ Y9 9 6 = nI x ∧ (∀ i, i ≠ 6 → Y9 9 i = Yb 9 i) ∧ ∀ i, i < x → Y9 7 i = handle E (f i)
theorem WI.add {E : mE} {f : Nat → Nat} {Yb Y9 Y8 : Nat → Nat → Int32} {x : Nat} (h : WI E f Yb Y9 x) (hy : Y8 = up2 (up2 Y9 7 (upd (Y9 7) x (handle E (f x)))) 9 (upd ((up2 Y9 7 (upd (Y9 7) x (handle E (f x)))) 9) 6 (nI (x + 1)))) : WI E f Yb Y8 (x + 1) := by
  subst hy
  refine ⟨fun j h7 h9 => by simp only [up2, if_neg h7, if_neg h9]; exact h.1 j h7 h9, rfl, fun i hi => ?_, fun i hi => ?_⟩
  · show upd (Y9 9) 6 _ i = _
    rw [upd_n hi]; exact h.2.2.1 i hi
  · show upd (Y9 7) x _ i = _
    by_cases c : i = x
    · rw [c, upd_s]
    · rw [upd_n c]; exact h.2.2.2 i (by omega)
set_option maxHeartbeats 4000000 in
set_option maxRecDepth 100000 in
theorem law_question {p : Program} {l : Launch} {e : Env} {s : State} {m : MethodId} {below : List Frame} {meth : Method} {c : Code} {Q : State → Prop} {b : Nat} {D : va_G} {T : Nat → ClassId} {dE mi b0 g : Nat} (hst : l.stackTraces = false) (hx : p.tables.exec = Jvm.exec) (hb : c.code = cL_law) (hml : c.maxLocals = 26) (hown : s.vm.findClass RL = some m.cls) (hts : ∀ w ∈ wsL_law, w.before #[Value.ref b] s = true) (hev : EV D T dE mi (fun q : Nat => s.heap.size ≤ q) s) {k : Nat} (hk : k < 70) {H : Heap} {locs : List Loc} {M : mSt} {Y : Nat → Nat → Int32} (hPK : PK D T dE b0 (fun q : Nat => s.heap.size ≤ q) g Y M H) (hR : LRel Y M) (hI : Inv (800 * k) M) (hS : va_S (fun q : Nat => s.heap.size ≤ q) s.heap H locs) {kx ox px kd9 : Nat} {x z vx : Int32} {hv : Bool} (hkx : kx < 10) (hox : ox < 10) (hpx : px < 6) (hhv : mAl (sE M) kx = true → hv = bitS (mKd (sE M) kx) px) {ls : Array Slot} (hl : lv_has ls 26 [(21, .int (bI hv)), (20, .int (bI (mAl (sE M) kx))), (19, .int vx), (18, .int (nI px)), (17, .int (handle (sE M) kx)), (16, .int (nI ox)), (15, .int (nI kx)), (14, .int (nI kd9)), (13, .int z), (12, .int x), (11, .int (nI k)), (10, .ref (g + 9)), (9, .ref (g + 8)), (8, .ref (g + 7)), (7, .ref (g + 6)), (6, .ref (g + 5)), (5, .ref (g + 4)), (4, .ref (g + 3)), (3, .ref (g + 2)), (2, .ref (g + 1)), (1, .ref b0), (0, .ref b)])
    (hchk : ∀ (H1 : Heap) (locs1 : List Loc) (M1 : mSt) (Y1 : Nat → Nat → Int32) (ls1 : Array Slot), PK D T dE b0 (fun q : Nat => s.heap.size ≤ q) g Y1 M1 H1 → LRel Y1 M1 → Inv (800 * (k + 1)) M1 → va_S (fun q : Nat => s.heap.size ≤ q) s.heap H1 locs1 → lv_has ls1 26 [(11, .int (nI k)), (10, .ref (g + 9)), (9, .ref (g + 8)), (8, .ref (g + 7)), (7, .ref (g + 6)), (6, .ref (g + 5)), (5, .ref (g + 4)), (4, .ref (g + 3)), (3, .ref (g + 2)), (2, .ref (g + 1)), (1, .ref b0), (0, .ref b)] → W p l e room_1 s m #[Value.ref b] below meth c H1 locs1 (200 + 4400 * k + 300) (5000 + 50000 * k + 5400) Q (F0 m 1955 ls1 [])) (hnxt : ∀ (H1 : Heap) (locs1 : List Loc) (M1 : mSt) (Y1 : Nat → Nat → Int32) (ls1 : Array Slot), PK D T dE b0 (fun q : Nat => s.heap.size ≤ q) g Y1 M1 H1 → LRel Y1 M1 → Inv (800 * (k + 1)) M1 → va_S (fun q : Nat => s.heap.size ≤ q) s.heap H1 locs1 → lv_has ls1 26 [(11, .int (nI k)), (10, .ref (g + 9)), (9, .ref (g + 8)), (8, .ref (g + 7)), (7, .ref (g + 6)), (6, .ref (g + 5)), (5, .ref (g + 4)), (4, .ref (g + 3)), (3, .ref (g + 2)), (2, .ref (g + 1)), (1, .ref b0), (0, .ref b)] → W p l e room_1 s m #[Value.ref b] below meth c H1 locs1 (200 + 4400 * (k + 1)) (5000 + 50000 * (k + 1)) Q (F0 m 1986 ls1 [])) (hrtn : ∀ (H1 : Heap) (locs1 : List Loc) (ls1 : Array Slot), va_S (fun q : Nat => s.heap.size ≤ q) s.heap H1 locs1 → W p l e room_1 s m #[Value.ref b] below meth c H1 locs1 (200 + 4400 * (k + 1)) (5000 + 50000 * (k + 1)) Q (F0 m 1848 ls1 [.int (nI 1)])) : W p l e room_1 s m #[Value.ref b] below meth c H locs (200 + 4400 * k) (5000 + 50000 * k) Q (F0 m 858 ls []) := by
  have hK := hev.1
  have hL := hPK.sl
  have hAS := hPK.as
  have hh := hI.had
  have iE := hI.1
  have iR := hI.2.1
  have hT := hR.1
  have h10 := hT.1.2.2.2.2.1
  have hq8 := hI.2.2.1.1
  refine lv_aload hx hb dL_law_858 (lv_at hl 11 rfl) ?_
  refine lv_iconst (v := nI 2) hx hb dL_law_860 (by decide) ?_
  refine n_ld9 (i := 2) hx hb hK hL (by omega) dL_law_861 ?_
  refine x_top (y := (nI ((sQ M).1))) (hR.2.1.1) ?_
  refine lv_bipush (v := nI 8) hx hb dL_law_862 (by decide) ?_
  refine y_icmp_ne hx hb (by omega) (Nat.le_of_ble_eq_true rfl) (tgt := 870) dL_law_864 (by decide) (fun c864 => ?_) (fun c864 => ?_)
  · refine lv_aload hx hb dL_law_870 (lv_at hl 15 rfl) ?_
    refine lv_iconst (v := nI 3) hx hb dL_law_872 (by decide) ?_
    refine lv_aload hx hb dL_law_873 (lv_at hl 11 rfl) ?_
    refine lv_iconst (v := nI 2) hx hb dL_law_875 (by decide) ?_
    refine n_ld9 (i := 2) hx hb hK hL (by omega) dL_law_876 ?_
    refine x_top (y := (nI ((sQ M).1))) (hR.2.1.1) ?_
    refine y_imul hx hb dL_law_877 ?_
    refine lv_iload hx hb dL_law_878 (lv_at hl 8 rfl) ?_
    refine lv_bipush (v := nI 64) hx hb dL_law_880 (by decide) ?_
    refine k_iN (k_S (As := [.int z, .int (nI 64)]) (rest := [.int (nI (3 * ((sQ M).1))), .ref (g + 5)]) ⟨hx, hb, hml, hown, hts⟩ hev hS (c_L_low l (z) (q := 64) (by decide) (by decide)) (va_cwS 2 hts gL_law_L_low rfl rfl rfl (by decide +kernel) ⟨Nat.le_of_ble_eq_true rfl, Nat.le_of_ble_eq_true rfl⟩) rfl hl.1 (Nat.le_of_ble_eq_true rfl) dL_law_882 (by show _ ≤ (704995 : Nat); omega) (by show _ ≤ (6986640 : Nat); omega)) hS (fun rq1_ H1 locs1 hP hz1 hS => ?_)
    refine W.widen (k := 200 + 4400 * k) (n := 5000 + 50000 * k) (Nat.le_refl _) (Nat.le_refl _) ?_
    have hPK : PK D T dE b0 (fun q : Nat => s.heap.size ≤ q) g Y M H1 := by rw [hP.1]; exact hPK
    have hL := hPK.sl
    obtain ⟨-, j1, hj1, ej1⟩ := hP
    refine x_top (y := (nI j1)) (ej1) ?_
    refine lv_iload hx hb dL_law_885 (lv_at hl 8 rfl) ?_
    refine lv_bipush (v := nI 6) hx hb dL_law_887 (by decide) ?_
    refine lv_ishr hx hb dL_law_889 ?_
    refine lv_bipush (v := nI 64) hx hb dL_law_890 (by decide) ?_
    refine k_iN (k_S (As := [.int (z >>> ((nI 6) &&& 31)), .int (nI 64)]) (rest := [.int (nI j1), .int (nI (3 * ((sQ M).1))), .ref (g + 5)]) ⟨hx, hb, hml, hown, hts⟩ hev hS (c_L_low l (z >>> ((nI 6) &&& 31)) (q := 64) (by decide) (by decide)) (va_cwS 2 hts gL_law_L_low rfl rfl rfl (by decide +kernel) ⟨Nat.le_of_ble_eq_true rfl, Nat.le_of_ble_eq_true rfl⟩) rfl hl.1 (Nat.le_of_ble_eq_true rfl) dL_law_892 (by show _ ≤ (704995 : Nat); omega) (by show _ ≤ (6986640 : Nat); omega)) hS (fun rq2_ H2 locs2 hP hz2 hS => ?_)
    refine W.widen (k := 200 + 4400 * k) (n := 5000 + 50000 * k) (Nat.le_refl _) (Nat.le_refl _) ?_
    have hPK : PK D T dE b0 (fun q : Nat => s.heap.size ≤ q) g Y M H2 := by rw [hP.1]; exact hPK
    have hL := hPK.sl
    obtain ⟨-, j2, hj2, ej2⟩ := hP
    refine x_top (y := (nI j2)) (ej2) ?_
    refine lv_iand hx hb dL_law_895 ?_
    refine x_top (y := (nI (j1 &&& j2))) ((bit_and2 _ hj1 _ hj2).1) ?_
    refine n_st5 (i := 3 * ((sQ M).1)) (v := (nI (j1 &&& j2))) hx hb hK hS hL hAS (by omega) dL_law_896 (fun H3 locs3 hL hz3 hq3 hS => ?_)
    have hPK := hPK.w hL (Nat.le_of_eq hz3.symm) (fun q _ zz => hq3 q zz)
    obtain ⟨Y3, hPK, hL, hY3⟩ : ∃ Yn, PK D T dE b0 (fun q : Nat => s.heap.size ≤ q) g Yn M H3 ∧ SL T g Yn H3 ∧ Yn = up2 Y 5 (upd (Y 5) (3 * ((sQ M).1)) (nI (j1 &&& j2))) := ⟨_, hPK, hL, rfl⟩
    refine lv_aload hx hb dL_law_897 (lv_at hl 15 rfl) ?_
    refine lv_iconst (v := nI 3) hx hb dL_law_899 (by decide) ?_
    refine lv_aload hx hb dL_law_900 (lv_at hl 11 rfl) ?_
    refine lv_iconst (v := nI 2) hx hb dL_law_902 (by decide) ?_
    refine n_ld9 (i := 2) hx hb hK hL (by omega) dL_law_903 ?_
    refine x_top (y := (nI ((sQ M).1))) (by rw [hY3]; exact hR.2.1.1) ?_
    refine y_imul hx hb dL_law_904 ?_
    refine lv_iconst (v := nI 1) hx hb dL_law_905 (by decide) ?_
    refine y_iadd hx hb dL_law_906 ?_
    refine lv_iload hx hb dL_law_907 (lv_at hl 8 rfl) ?_
    refine lv_bipush (v := nI 12) hx hb dL_law_909 (by decide) ?_
    refine lv_ishr hx hb dL_law_911 ?_
    refine lv_bipush (v := nI 64) hx hb dL_law_912 (by decide) ?_
    refine k_iN (k_S (As := [.int (z >>> ((nI 12) &&& 31)), .int (nI 64)]) (rest := [.int (nI ((3 * ((sQ M).1)) + 1)), .ref (g + 5)]) ⟨hx, hb, hml, hown, hts⟩ hev hS (c_L_low l (z >>> ((nI 12) &&& 31)) (q := 64) (by decide) (by decide)) (va_cwS 2 hts gL_law_L_low rfl rfl rfl (by decide +kernel) ⟨Nat.le_of_ble_eq_true rfl, Nat.le_of_ble_eq_true rfl⟩) rfl hl.1 (Nat.le_of_ble_eq_true rfl) dL_law_914 (by show _ ≤ (704995 : Nat); omega) (by show _ ≤ (6986640 : Nat); omega)) hS (fun rq4_ H4 locs4 hP hz4 hS => ?_)
    refine W.widen (k := 200 + 4400 * k) (n := 5000 + 50000 * k) (Nat.le_refl _) (Nat.le_refl _) ?_
    have hPK : PK D T dE b0 (fun q : Nat => s.heap.size ≤ q) g Y3 M H4 := by rw [hP.1]; exact hPK
    have hL := hPK.sl
    obtain ⟨-, j4, hj4, ej4⟩ := hP
    refine x_top (y := (nI j4)) (ej4) ?_
    refine lv_iload hx hb dL_law_917 (lv_at hl 8 rfl) ?_
    refine lv_bipush (v := nI 15) hx hb dL_law_919 (by decide) ?_
    refine lv_ishr hx hb dL_law_921 ?_
    refine lv_bipush (v := nI 64) hx hb dL_law_922 (by decide) ?_
    refine k_iN (k_S (As := [.int (z >>> ((nI 15) &&& 31)), .int (nI 64)]) (rest := [.int (nI j4), .int (nI ((3 * ((sQ M).1)) + 1)), .ref (g + 5)]) ⟨hx, hb, hml, hown, hts⟩ hev hS (c_L_low l (z >>> ((nI 15) &&& 31)) (q := 64) (by decide) (by decide)) (va_cwS 2 hts gL_law_L_low rfl rfl rfl (by decide +kernel) ⟨Nat.le_of_ble_eq_true rfl, Nat.le_of_ble_eq_true rfl⟩) rfl hl.1 (Nat.le_of_ble_eq_true rfl) dL_law_924 (by show _ ≤ (704995 : Nat); omega) (by show _ ≤ (6986640 : Nat); omega)) hS (fun rq5_ H5 locs5 hP hz5 hS => ?_)
    refine W.widen (k := 200 + 4400 * k) (n := 5000 + 50000 * k) (Nat.le_refl _) (Nat.le_refl _) ?_
    have hPK : PK D T dE b0 (fun q : Nat => s.heap.size ≤ q) g Y3 M H5 := by rw [hP.1]; exact hPK
    have hL := hPK.sl
    obtain ⟨-, j5, hj5, ej5⟩ := hP
    refine x_top (y := (nI j5)) (ej5) ?_
    refine lv_iand hx hb dL_law_927 ?_
    refine x_top (y := (nI (j4 &&& j5))) ((bit_and2 _ hj4 _ hj5).1) ?_
    refine lv_iload hx hb dL_law_928 (lv_at hl 8 rfl) ?_
    refine lv_bipush (v := nI 18) hx hb dL_law_930 (by decide) ?_
    refine lv_ishr hx hb dL_law_932 ?_
    refine lv_bipush (v := nI 64) hx hb dL_law_933 (by decide) ?_
    refine k_iN (k_S (As := [.int (z >>> ((nI 18) &&& 31)), .int (nI 64)]) (rest := [.int (nI (j4 &&& j5)), .int (nI ((3 * ((sQ M).1)) + 1)), .ref (g + 5)]) ⟨hx, hb, hml, hown, hts⟩ hev hS (c_L_low l (z >>> ((nI 18) &&& 31)) (q := 64) (by decide) (by decide)) (va_cwS 2 hts gL_law_L_low rfl rfl rfl (by decide +kernel) ⟨Nat.le_of_ble_eq_true rfl, Nat.le_of_ble_eq_true rfl⟩) rfl hl.1 (Nat.le_of_ble_eq_true rfl) dL_law_935 (by show _ ≤ (704995 : Nat); omega) (by show _ ≤ (6986640 : Nat); omega)) hS (fun rq6_ H6 locs6 hP hz6 hS => ?_)
    refine W.widen (k := 200 + 4400 * k) (n := 5000 + 50000 * k) (Nat.le_refl _) (Nat.le_refl _) ?_
    have hPK : PK D T dE b0 (fun q : Nat => s.heap.size ≤ q) g Y3 M H6 := by rw [hP.1]; exact hPK
    have hL := hPK.sl
    obtain ⟨-, j6, hj6, ej6⟩ := hP
    refine x_top (y := (nI j6)) (ej6) ?_
    refine lv_iand hx hb dL_law_938 ?_
    refine x_top (y := (nI ((j4 &&& j5) &&& j6))) ((bit_and2 _ (bit_and2 _ hj4 _ hj5).2 _ hj6).1) ?_
    refine n_st5 (i := (3 * ((sQ M).1)) + 1) (v := (nI ((j4 &&& j5) &&& j6))) hx hb hK hS hL hAS (by omega) dL_law_939 (fun H7 locs7 hL hz7 hq7 hS => ?_)
    have hPK := hPK.w hL (Nat.le_of_eq hz7.symm) (fun q _ zz => hq7 q zz)
    obtain ⟨Y7, hPK, hL, hY7⟩ : ∃ Yn, PK D T dE b0 (fun q : Nat => s.heap.size ≤ q) g Yn M H7 ∧ SL T g Yn H7 ∧ Yn = up2 Y3 5 (upd (Y3 5) ((3 * ((sQ M).1)) + 1) (nI ((j4 &&& j5) &&& j6))) := ⟨_, hPK, hL, rfl⟩
    refine lv_aload hx hb dL_law_940 (lv_at hl 15 rfl) ?_
    refine lv_iconst (v := nI 3) hx hb dL_law_942 (by decide) ?_
    refine lv_aload hx hb dL_law_943 (lv_at hl 11 rfl) ?_
    refine lv_iconst (v := nI 2) hx hb dL_law_945 (by decide) ?_
    refine n_ld9 (i := 2) hx hb hK hL (by omega) dL_law_946 ?_
    refine x_top (y := (nI ((sQ M).1))) (by rw [hY7, hY3]; exact hR.2.1.1) ?_
    refine y_imul hx hb dL_law_947 ?_
    refine lv_iconst (v := nI 2) hx hb dL_law_948 (by decide) ?_
    refine y_iadd hx hb dL_law_949 ?_
    refine lv_iload hx hb dL_law_950 (lv_at hl 8 rfl) ?_
    refine lv_bipush (v := nI 21) hx hb dL_law_952 (by decide) ?_
    refine lv_ishr hx hb dL_law_954 ?_
    refine lv_iconst (v := nI 2) hx hb dL_law_955 (by decide) ?_
    refine k_iN (k_S (As := [.int (z >>> ((nI 21) &&& 31)), .int (nI 2)]) (rest := [.int (nI ((3 * ((sQ M).1)) + 2)), .ref (g + 5)]) ⟨hx, hb, hml, hown, hts⟩ hev hS (c_L_low l (z >>> ((nI 21) &&& 31)) (q := 2) (by decide) (by decide)) (va_cwS 2 hts gL_law_L_low rfl rfl rfl (by decide +kernel) ⟨Nat.le_of_ble_eq_true rfl, Nat.le_of_ble_eq_true rfl⟩) rfl hl.1 (Nat.le_of_ble_eq_true rfl) dL_law_956 (by show _ ≤ (704995 : Nat); omega) (by show _ ≤ (6986640 : Nat); omega)) hS (fun rq8_ H8 locs8 hP hz8 hS => ?_)
    refine W.widen (k := 200 + 4400 * k) (n := 5000 + 50000 * k) (Nat.le_refl _) (Nat.le_refl _) ?_
    have hPK : PK D T dE b0 (fun q : Nat => s.heap.size ≤ q) g Y7 M H8 := by rw [hP.1]; exact hPK
    have hL := hPK.sl
    obtain ⟨-, j8, hj8, ej8⟩ := hP
    refine x_top (y := (nI j8)) (ej8) ?_
    refine y_if_ne hx hb (by omega) (tgt := 966) dL_law_959 (by decide) (fun c959 => ?_) (fun c959 => ?_)
    · refine lv_iload hx hb dL_law_966 (lv_at hl 8 rfl) ?_
      refine lv_bipush (v := nI 22) hx hb dL_law_968 (by decide) ?_
      refine lv_ishr hx hb dL_law_970 ?_
      refine lv_bipush (v := nI 64) hx hb dL_law_971 (by decide) ?_
      refine k_iN (k_S (As := [.int (z >>> ((nI 22) &&& 31)), .int (nI 64)]) (rest := [.int (nI ((3 * ((sQ M).1)) + 2)), .ref (g + 5)]) ⟨hx, hb, hml, hown, hts⟩ hev hS (c_L_low l (z >>> ((nI 22) &&& 31)) (q := 64) (by decide) (by decide)) (va_cwS 2 hts gL_law_L_low rfl rfl rfl (by decide +kernel) ⟨Nat.le_of_ble_eq_true rfl, Nat.le_of_ble_eq_true rfl⟩) rfl hl.1 (Nat.le_of_ble_eq_true rfl) dL_law_973 (by show _ ≤ (704995 : Nat); omega) (by show _ ≤ (6986640 : Nat); omega)) hS (fun rq9_ H9 locs9 hP hz9 hS => ?_)
      refine W.widen (k := 200 + 4400 * k) (n := 5000 + 50000 * k) (Nat.le_refl _) (Nat.le_refl _) ?_
      have hPK : PK D T dE b0 (fun q : Nat => s.heap.size ≤ q) g Y7 M H9 := by rw [hP.1]; exact hPK
      have hL := hPK.sl
      obtain ⟨-, j9, hj9, ej9⟩ := hP
      refine x_top (y := (nI j9)) (ej9) ?_
      refine n_st5 (i := (3 * ((sQ M).1)) + 2) (v := (nI j9)) hx hb hK hS hL hAS (by omega) dL_law_976 (fun H10 locs10 hL hz10 hq10 hS => ?_)
      have hPK := hPK.w hL (Nat.le_of_eq hz10.symm) (fun q _ zz => hq10 q zz)
      obtain ⟨Y10, hPK, hL, hY10⟩ : ∃ Yn, PK D T dE b0 (fun q : Nat => s.heap.size ≤ q) g Yn M H10 ∧ SL T g Yn H10 ∧ Yn = up2 Y7 5 (upd (Y7 5) ((3 * ((sQ M).1)) + 2) (nI j9)) := ⟨_, hPK, hL, rfl⟩
      refine lv_aload hx hb dL_law_977 (lv_at hl 11 rfl) ?_
      refine lv_iconst (v := nI 2) hx hb dL_law_979 (by decide) ?_
      refine lv_dup2_11 hx hb dL_law_980 rfl rfl ?_
      refine n_ld9 (i := 2) hx hb hK hL (by omega) dL_law_981 ?_
      refine x_top (y := (nI ((sQ M).1))) (by rw [hY10, hY7, hY3]; exact hR.2.1.1) ?_
      refine lv_iconst (v := nI 1) hx hb dL_law_982 (by decide) ?_
      refine y_iadd hx hb dL_law_983 ?_
      refine n_st9 (i := 2) (v := (nI (((sQ M).1) + 1))) hx hb hK hS hL hAS (by omega) dL_law_984 (fun H11 locs11 hL hz11 hq11 hS => ?_)
      have hPK := hPK.w hL (Nat.le_of_eq hz11.symm) (fun q _ zz => hq11 q zz)
      obtain ⟨Y11, hPK, hL, hY11⟩ : ∃ Yn, PK D T dE b0 (fun q : Nat => s.heap.size ≤ q) g Yn M H11 ∧ SL T g Yn H11 ∧ Yn = up2 Y10 9 (upd (Y10 9) 2 (nI (((sQ M).1) + 1))) := ⟨_, hPK, hL, rfl⟩
      refine lv_aload_n hx hb dL_law_985 rfl (lv_at hl 20 rfl) ?_
      refine lv_aload hx hb dL_law_986 (lv_at hl 15 rfl) ?_
      refine lv_iconst (v := nI 3) hx hb dL_law_988 (by decide) ?_
      refine lv_aload hx hb dL_law_989 (lv_at hl 11 rfl) ?_
      refine lv_iconst (v := nI 2) hx hb dL_law_991 (by decide) ?_
      refine n_ld9 (i := 2) hx hb hK hL (by omega) dL_law_992 ?_
      refine x_top (y := (nI ((sQ M).1 + 1))) (by rw [hY11]; rfl) ?_
      refine y_imul hx hb dL_law_993 ?_
      refine lv_iconst (v := nI 3) hx hb dL_law_994 (by decide) ?_
      refine y_isub hx hb (by omega) dL_law_995 ?_
      refine n_ld5 (i := (3 * ((sQ M).1 + 1)) - 3) hx hb hK hL (by omega) dL_law_996 ?_
      refine x_top (y := (nI (j1 &&& j2))) (by rw [show 3 * ((sQ M).1 + 1) - 3 = 3 * (sQ M).1 by omega, hY11, hY10, hY7, hY3]; simp [up2, upd]) ?_
      refine lv_aload hx hb dL_law_997 (lv_at hl 15 rfl) ?_
      refine lv_iconst (v := nI 3) hx hb dL_law_999 (by decide) ?_
      refine lv_aload hx hb dL_law_1000 (lv_at hl 11 rfl) ?_
      refine lv_iconst (v := nI 2) hx hb dL_law_1002 (by decide) ?_
      refine n_ld9 (i := 2) hx hb hK hL (by omega) dL_law_1003 ?_
      refine x_top (y := (nI ((sQ M).1 + 1))) (by rw [hY11]; rfl) ?_
      refine y_imul hx hb dL_law_1004 ?_
      refine lv_iconst (v := nI 2) hx hb dL_law_1005 (by decide) ?_
      refine y_isub hx hb (by omega) dL_law_1006 ?_
      refine n_ld5 (i := (3 * ((sQ M).1 + 1)) - 2) hx hb hK hL (by omega) dL_law_1007 ?_
      refine x_top (y := (nI ((j4 &&& j5) &&& j6))) (by rw [show 3 * ((sQ M).1 + 1) - 2 = 3 * (sQ M).1 + 1 by omega, hY11, hY10, hY7, hY3]; simp [up2, upd]) ?_
      refine lv_aload hx hb dL_law_1008 (lv_at hl 15 rfl) ?_
      refine lv_iconst (v := nI 3) hx hb dL_law_1010 (by decide) ?_
      refine lv_aload hx hb dL_law_1011 (lv_at hl 11 rfl) ?_
      refine lv_iconst (v := nI 2) hx hb dL_law_1013 (by decide) ?_
      refine n_ld9 (i := 2) hx hb hK hL (by omega) dL_law_1014 ?_
      refine x_top (y := (nI ((sQ M).1 + 1))) (by rw [hY11]; rfl) ?_
      refine y_imul hx hb dL_law_1015 ?_
      refine lv_iconst (v := nI 1) hx hb dL_law_1016 (by decide) ?_
      refine y_isub hx hb (by omega) dL_law_1017 ?_
      refine n_ld5 (i := (3 * ((sQ M).1 + 1)) - 1) hx hb hK hL (by omega) dL_law_1018 ?_
      refine x_top (y := (nI j9)) (by rw [show 3 * ((sQ M).1 + 1) - 1 = 3 * (sQ M).1 + 2 by omega, hY11, hY10, hY7, hY3]; simp [up2, upd]) ?_
      refine k_iN (k_V (As := [.int (nI (j1 &&& j2)), .int (nI ((j4 &&& j5) &&& j6)), .int (nI j9)]) (rest := []) ⟨hx, hb, hml, hown, hts⟩ hev hS (w_question l hst hPK hI (nI (j1 &&& j2)) (nI ((j4 &&& j5) &&& j6)) (nI (j9)) (by rw [qs_0 ((bit_and2 _ hj1 _ hj2).2) ((bit_and2 _ (bit_and2 _ hj4 _ hj5).2 _ hj6).2) (hj9) c864])) (cwV 3 hts gL_law_X6_question rfl rfl rfl (by decide +kernel) ⟨Nat.le_of_ble_eq_true rfl, Nat.le_of_ble_eq_true rfl⟩) (pk_recv hK hPK) rfl hl.1 (Nat.le_of_ble_eq_true rfl) dL_law_1019 (by show _ ≤ (704995 : Nat); omega) (by show _ ≤ (6986640 : Nat); omega)) hS (fun rq12_ H12 locs12 hP hz12 hS => ?_)
      rw [qs_0 ((bit_and2 _ hj1 _ hj2).2) ((bit_and2 _ (bit_and2 _ hj4 _ hj5).2 _ hj6).2) (hj9) c864] at hP
      have er := hP.1
      have hPK := hP.2
      have hL := hPK.sl
      refine x_top (y := (nI ((sQ M).1))) (er) ?_
      have hI8 : Inv (800 * (k + 1)) (wQ M ((sQ M).1 + 1, nu (sQ M).2.1 (sQ M).1 (j1 &&& j2), nu (sQ M).2.2.1 (sQ M).1 ((j4 &&& j5) &&& j6), nu (sQ M).2.2.2 (sQ M).1 (j9))) := by have := i_question hI (nI (j1 &&& j2)) (nI ((j4 &&& j5) &&& j6)) (nI (j9)); rw [qs_0 ((bit_and2 _ hj1 _ hj2).2) ((bit_and2 _ (bit_and2 _ hj4 _ hj5).2 _ hj6).2) (hj9) c864] at this; exact this.mono (by omega) (by omega)
      have hR8 : LRel Y11 (wQ M ((sQ M).1 + 1, nu (sQ M).2.1 (sQ M).1 (j1 &&& j2), nu (sQ M).2.2.1 (sQ M).1 ((j4 &&& j5) &&& j6), nu (sQ M).2.2.2 (sQ M).1 (j9))) := hR.q (hR.2.1.add (by rw [hY11]; rfl) (fun j => by rw [hY11, hY10, hY7, hY3]; rfl)) (fun j h5 h9 => by rw [hY11, hY10, hY7, hY3]; simp only [up2, if_neg h5, if_neg h9]) (fun i hi => by rw [hY11, hY10, hY7, hY3]; exact upd_n hi)
      refine lv_aload hx hb dL_law_1022 (lv_at hl 11 rfl) ?_
      refine lv_iconst (v := nI 2) hx hb dL_law_1024 (by decide) ?_
      refine n_ld9 (i := 2) hx hb hK hL (by omega) dL_law_1025 ?_
      refine x_top (y := (nI ((sQ M).1 + 1))) (by rw [hY11]; rfl) ?_
      refine lv_iconst (v := nI 1) hx hb dL_law_1026 (by decide) ?_
      refine y_isub hx hb (by omega) dL_law_1027 ?_
      refine y_icmp_eq hx hb (by omega) (by omega) (tgt := 1955) dL_law_1028 (by decide) (fun c1028 => ?_) (fun c1028 => ?_)
      · refine W.widen (k := 200 + 4400 * k + 300) (n := 5000 + 50000 * k + 5400) (by omega) (by omega) ?_
        exact hchk _ _ _ _ ls hPK hR8 hI8 hS (lv_sub hl [10, 11, 12, 13, 14, 15, 16, 17, 18, 19, 20, 21] rfl)
      · omega
    · refine lv_iconst (v := nI 0) hx hb dL_law_962 (by decide) ?_
      refine lv_goto (tgt := 976) hx hb dL_law_963 (by decide) ?_
      refine n_st5 (i := (3 * ((sQ M).1)) + 2) (v := (nI 0)) hx hb hK hS hL hAS (by omega) dL_law_976 (fun H13 locs13 hL hz13 hq13 hS => ?_)
      have hPK := hPK.w hL (Nat.le_of_eq hz13.symm) (fun q _ zz => hq13 q zz)
      obtain ⟨Y13, hPK, hL, hY13⟩ : ∃ Yn, PK D T dE b0 (fun q : Nat => s.heap.size ≤ q) g Yn M H13 ∧ SL T g Yn H13 ∧ Yn = up2 Y7 5 (upd (Y7 5) ((3 * ((sQ M).1)) + 2) (nI 0)) := ⟨_, hPK, hL, rfl⟩
      refine lv_aload hx hb dL_law_977 (lv_at hl 11 rfl) ?_
      refine lv_iconst (v := nI 2) hx hb dL_law_979 (by decide) ?_
      refine lv_dup2_11 hx hb dL_law_980 rfl rfl ?_
      refine n_ld9 (i := 2) hx hb hK hL (by omega) dL_law_981 ?_
      refine x_top (y := (nI ((sQ M).1))) (by rw [hY13, hY7, hY3]; exact hR.2.1.1) ?_
      refine lv_iconst (v := nI 1) hx hb dL_law_982 (by decide) ?_
      refine y_iadd hx hb dL_law_983 ?_
      refine n_st9 (i := 2) (v := (nI (((sQ M).1) + 1))) hx hb hK hS hL hAS (by omega) dL_law_984 (fun H14 locs14 hL hz14 hq14 hS => ?_)
      have hPK := hPK.w hL (Nat.le_of_eq hz14.symm) (fun q _ zz => hq14 q zz)
      obtain ⟨Y14, hPK, hL, hY14⟩ : ∃ Yn, PK D T dE b0 (fun q : Nat => s.heap.size ≤ q) g Yn M H14 ∧ SL T g Yn H14 ∧ Yn = up2 Y13 9 (upd (Y13 9) 2 (nI (((sQ M).1) + 1))) := ⟨_, hPK, hL, rfl⟩
      refine lv_aload_n hx hb dL_law_985 rfl (lv_at hl 20 rfl) ?_
      refine lv_aload hx hb dL_law_986 (lv_at hl 15 rfl) ?_
      refine lv_iconst (v := nI 3) hx hb dL_law_988 (by decide) ?_
      refine lv_aload hx hb dL_law_989 (lv_at hl 11 rfl) ?_
      refine lv_iconst (v := nI 2) hx hb dL_law_991 (by decide) ?_
      refine n_ld9 (i := 2) hx hb hK hL (by omega) dL_law_992 ?_
      refine x_top (y := (nI ((sQ M).1 + 1))) (by rw [hY14]; rfl) ?_
      refine y_imul hx hb dL_law_993 ?_
      refine lv_iconst (v := nI 3) hx hb dL_law_994 (by decide) ?_
      refine y_isub hx hb (by omega) dL_law_995 ?_
      refine n_ld5 (i := (3 * ((sQ M).1 + 1)) - 3) hx hb hK hL (by omega) dL_law_996 ?_
      refine x_top (y := (nI (j1 &&& j2))) (by rw [show 3 * ((sQ M).1 + 1) - 3 = 3 * (sQ M).1 by omega, hY14, hY13, hY7, hY3]; simp [up2, upd]) ?_
      refine lv_aload hx hb dL_law_997 (lv_at hl 15 rfl) ?_
      refine lv_iconst (v := nI 3) hx hb dL_law_999 (by decide) ?_
      refine lv_aload hx hb dL_law_1000 (lv_at hl 11 rfl) ?_
      refine lv_iconst (v := nI 2) hx hb dL_law_1002 (by decide) ?_
      refine n_ld9 (i := 2) hx hb hK hL (by omega) dL_law_1003 ?_
      refine x_top (y := (nI ((sQ M).1 + 1))) (by rw [hY14]; rfl) ?_
      refine y_imul hx hb dL_law_1004 ?_
      refine lv_iconst (v := nI 2) hx hb dL_law_1005 (by decide) ?_
      refine y_isub hx hb (by omega) dL_law_1006 ?_
      refine n_ld5 (i := (3 * ((sQ M).1 + 1)) - 2) hx hb hK hL (by omega) dL_law_1007 ?_
      refine x_top (y := (nI ((j4 &&& j5) &&& j6))) (by rw [show 3 * ((sQ M).1 + 1) - 2 = 3 * (sQ M).1 + 1 by omega, hY14, hY13, hY7, hY3]; simp [up2, upd]) ?_
      refine lv_aload hx hb dL_law_1008 (lv_at hl 15 rfl) ?_
      refine lv_iconst (v := nI 3) hx hb dL_law_1010 (by decide) ?_
      refine lv_aload hx hb dL_law_1011 (lv_at hl 11 rfl) ?_
      refine lv_iconst (v := nI 2) hx hb dL_law_1013 (by decide) ?_
      refine n_ld9 (i := 2) hx hb hK hL (by omega) dL_law_1014 ?_
      refine x_top (y := (nI ((sQ M).1 + 1))) (by rw [hY14]; rfl) ?_
      refine y_imul hx hb dL_law_1015 ?_
      refine lv_iconst (v := nI 1) hx hb dL_law_1016 (by decide) ?_
      refine y_isub hx hb (by omega) dL_law_1017 ?_
      refine n_ld5 (i := (3 * ((sQ M).1 + 1)) - 1) hx hb hK hL (by omega) dL_law_1018 ?_
      refine x_top (y := (nI 0)) (by rw [show 3 * ((sQ M).1 + 1) - 1 = 3 * (sQ M).1 + 2 by omega, hY14, hY13, hY7, hY3]; simp [up2, upd]) ?_
      refine k_iN (k_V (As := [.int (nI (j1 &&& j2)), .int (nI ((j4 &&& j5) &&& j6)), .int (nI 0)]) (rest := []) ⟨hx, hb, hml, hown, hts⟩ hev hS (w_question l hst hPK hI (nI (j1 &&& j2)) (nI ((j4 &&& j5) &&& j6)) (nI (0)) (by rw [qs_0 ((bit_and2 _ hj1 _ hj2).2) ((bit_and2 _ (bit_and2 _ hj4 _ hj5).2 _ hj6).2) ((by decide)) c864])) (cwV 3 hts gL_law_X6_question rfl rfl rfl (by decide +kernel) ⟨Nat.le_of_ble_eq_true rfl, Nat.le_of_ble_eq_true rfl⟩) (pk_recv hK hPK) rfl hl.1 (Nat.le_of_ble_eq_true rfl) dL_law_1019 (by show _ ≤ (704995 : Nat); omega) (by show _ ≤ (6986640 : Nat); omega)) hS (fun rq15_ H15 locs15 hP hz15 hS => ?_)
      rw [qs_0 ((bit_and2 _ hj1 _ hj2).2) ((bit_and2 _ (bit_and2 _ hj4 _ hj5).2 _ hj6).2) ((by decide)) c864] at hP
      have er := hP.1
      have hPK := hP.2
      have hL := hPK.sl
      refine x_top (y := (nI ((sQ M).1))) (er) ?_
      have hI8 : Inv (800 * (k + 1)) (wQ M ((sQ M).1 + 1, nu (sQ M).2.1 (sQ M).1 (j1 &&& j2), nu (sQ M).2.2.1 (sQ M).1 ((j4 &&& j5) &&& j6), nu (sQ M).2.2.2 (sQ M).1 (0))) := by have := i_question hI (nI (j1 &&& j2)) (nI ((j4 &&& j5) &&& j6)) (nI (0)); rw [qs_0 ((bit_and2 _ hj1 _ hj2).2) ((bit_and2 _ (bit_and2 _ hj4 _ hj5).2 _ hj6).2) ((by decide)) c864] at this; exact this.mono (by omega) (by omega)
      have hR8 : LRel Y14 (wQ M ((sQ M).1 + 1, nu (sQ M).2.1 (sQ M).1 (j1 &&& j2), nu (sQ M).2.2.1 (sQ M).1 ((j4 &&& j5) &&& j6), nu (sQ M).2.2.2 (sQ M).1 (0))) := hR.q (hR.2.1.add (by rw [hY14]; rfl) (fun j => by rw [hY14, hY13, hY7, hY3]; rfl)) (fun j h5 h9 => by rw [hY14, hY13, hY7, hY3]; simp only [up2, if_neg h5, if_neg h9]) (fun i hi => by rw [hY14, hY13, hY7, hY3]; exact upd_n hi)
      refine lv_aload hx hb dL_law_1022 (lv_at hl 11 rfl) ?_
      refine lv_iconst (v := nI 2) hx hb dL_law_1024 (by decide) ?_
      refine n_ld9 (i := 2) hx hb hK hL (by omega) dL_law_1025 ?_
      refine x_top (y := (nI ((sQ M).1 + 1))) (by rw [hY14]; rfl) ?_
      refine lv_iconst (v := nI 1) hx hb dL_law_1026 (by decide) ?_
      refine y_isub hx hb (by omega) dL_law_1027 ?_
      refine y_icmp_eq hx hb (by omega) (by omega) (tgt := 1955) dL_law_1028 (by decide) (fun c1028 => ?_) (fun c1028 => ?_)
      · refine W.widen (k := 200 + 4400 * k + 300) (n := 5000 + 50000 * k + 5400) (by omega) (by omega) ?_
        exact hchk _ _ _ _ ls hPK hR8 hI8 hS (lv_sub hl [10, 11, 12, 13, 14, 15, 16, 17, 18, 19, 20, 21] rfl)
      · omega
  · refine lv_goto (tgt := 1986) hx hb dL_law_867 (by decide) ?_
    refine W.widen (k := 200 + 4400 * (k + 1)) (n := 5000 + 50000 * (k + 1)) (by omega) (by omega) ?_
    exact hnxt _ _ _ _ ls hPK hR (hI.mono (by omega) (by omega)) hS (lv_sub hl [10, 11, 12, 13, 14, 15, 16, 17, 18, 19, 20, 21] rfl)
set_option maxHeartbeats 4000000 in
set_option maxRecDepth 100000 in
theorem law_run {p : Program} {l : Launch} {e : Env} {s : State} {m : MethodId} {below : List Frame} {meth : Method} {c : Code} {Q : State → Prop} {b : Nat} {D : va_G} {T : Nat → ClassId} {dE mi b0 g : Nat} (hst : l.stackTraces = false) (hx : p.tables.exec = Jvm.exec) (hb : c.code = cL_law) (hml : c.maxLocals = 26) (hown : s.vm.findClass RL = some m.cls) (hts : ∀ w ∈ wsL_law, w.before #[Value.ref b] s = true) (hev : EV D T dE mi (fun q : Nat => s.heap.size ≤ q) s) {k : Nat} (hk : k < 70) {H : Heap} {locs : List Loc} {M : mSt} {Y : Nat → Nat → Int32} (hPK : PK D T dE b0 (fun q : Nat => s.heap.size ≤ q) g Y M H) (hR : LRel Y M) (hI : Inv (800 * k) M) (hS : va_S (fun q : Nat => s.heap.size ≤ q) s.heap H locs) {kx ox px kd9 : Nat} {x z vx : Int32} {hv : Bool} (hkx : kx < 10) (hox : ox < 10) (hpx : px < 6) (hhv : mAl (sE M) kx = true → hv = bitS (mKd (sE M) kx) px) {ls : Array Slot} (hl : lv_has ls 26 [(21, .int (bI hv)), (20, .int (bI (mAl (sE M) kx))), (19, .int vx), (18, .int (nI px)), (17, .int (handle (sE M) kx)), (16, .int (nI ox)), (15, .int (nI kx)), (14, .int (nI kd9)), (13, .int z), (12, .int x), (11, .int (nI k)), (10, .ref (g + 9)), (9, .ref (g + 8)), (8, .ref (g + 7)), (7, .ref (g + 6)), (6, .ref (g + 5)), (5, .ref (g + 4)), (4, .ref (g + 3)), (3, .ref (g + 2)), (2, .ref (g + 1)), (1, .ref b0), (0, .ref b)])
    (hchk : ∀ (H1 : Heap) (locs1 : List Loc) (M1 : mSt) (Y1 : Nat → Nat → Int32) (ls1 : Array Slot), PK D T dE b0 (fun q : Nat => s.heap.size ≤ q) g Y1 M1 H1 → LRel Y1 M1 → Inv (800 * (k + 1)) M1 → va_S (fun q : Nat => s.heap.size ≤ q) s.heap H1 locs1 → lv_has ls1 26 [(11, .int (nI k)), (10, .ref (g + 9)), (9, .ref (g + 8)), (8, .ref (g + 7)), (7, .ref (g + 6)), (6, .ref (g + 5)), (5, .ref (g + 4)), (4, .ref (g + 3)), (3, .ref (g + 2)), (2, .ref (g + 1)), (1, .ref b0), (0, .ref b)] → W p l e room_1 s m #[Value.ref b] below meth c H1 locs1 (200 + 4400 * k + 300) (5000 + 50000 * k + 5400) Q (F0 m 1955 ls1 [])) (hnxt : ∀ (H1 : Heap) (locs1 : List Loc) (M1 : mSt) (Y1 : Nat → Nat → Int32) (ls1 : Array Slot), PK D T dE b0 (fun q : Nat => s.heap.size ≤ q) g Y1 M1 H1 → LRel Y1 M1 → Inv (800 * (k + 1)) M1 → va_S (fun q : Nat => s.heap.size ≤ q) s.heap H1 locs1 → lv_has ls1 26 [(11, .int (nI k)), (10, .ref (g + 9)), (9, .ref (g + 8)), (8, .ref (g + 7)), (7, .ref (g + 6)), (6, .ref (g + 5)), (5, .ref (g + 4)), (4, .ref (g + 3)), (3, .ref (g + 2)), (2, .ref (g + 1)), (1, .ref b0), (0, .ref b)] → W p l e room_1 s m #[Value.ref b] below meth c H1 locs1 (200 + 4400 * (k + 1)) (5000 + 50000 * (k + 1)) Q (F0 m 1986 ls1 [])) (hrtn : ∀ (H1 : Heap) (locs1 : List Loc) (ls1 : Array Slot), va_S (fun q : Nat => s.heap.size ≤ q) s.heap H1 locs1 → W p l e room_1 s m #[Value.ref b] below meth c H1 locs1 (200 + 4400 * (k + 1)) (5000 + 50000 * (k + 1)) Q (F0 m 1848 ls1 [.int (nI 1)])) : W p l e room_1 s m #[Value.ref b] below meth c H locs (200 + 4400 * k) (5000 + 50000 * k) Q (F0 m 1312 ls []) := by
  have hK := hev.1
  have hL := hPK.sl
  have hAS := hPK.as
  have hh := hI.had
  have iE := hI.1
  have iR := hI.2.1
  have hT := hR.1
  have h10 := hT.1.2.2.2.2.1
  have iY := hI.2.2.2.2.1
  refine lv_aload hx hb dL_law_1312 (lv_at hl 11 rfl) ?_
  refine lv_iconst (v := nI 4) hx hb dL_law_1314 (by decide) ?_
  refine n_ld9 (i := 4) hx hb hK hL (by omega) dL_law_1315 ?_
  refine x_top (y := (bI (wOn (sW M)))) (hR.2.2.2.2.1) ?_
  refine lv_iconst (v := nI 1) hx hb dL_law_1316 (by decide) ?_
  refine lv_icmp_ne (tgt := 1334) hx hb dL_law_1317 (by decide) (fun c1317 => ?_) (fun c1317 => ?_)
  · have hoff := bI_n1 c1317
    refine lv_aload_n hx hb dL_law_1334 rfl (lv_at hl 20 rfl) ?_
    refine k_iN (k_V (As := []) (rest := []) ⟨hx, hb, hml, hown, hts⟩ hev hS (w_run l hst hPK hI (by rw [rn_0 hoff])) (cwV 0 hts gL_law_X6_run rfl rfl rfl (by decide +kernel) ⟨Nat.le_of_ble_eq_true rfl, Nat.le_of_ble_eq_true rfl⟩) (pk_recv hK hPK) rfl hl.1 (Nat.le_of_ble_eq_true rfl) dL_law_1335 (by show _ ≤ (704995 : Nat); omega) (by show _ ≤ (6986640 : Nat); omega)) hS (fun rq1_ H1 locs1 hP hz1 hS => ?_)
    rw [rn_0 hoff] at hP
    have er := hP.1
    have hPK := hP.2
    have hL := hPK.sl
    refine x_top (y := ((runS (sY M) (sT M + 1) (sE M) (stgs (sY M) (sY M).1)).2)) (er) ?_
    have hI8 := i_run hI
    rw [rn_0 hoff] at hI8
    have hI8 := hI8.mono (b1 := 800 * (k + 1)) (by omega) (by omega)
    refine lv_aload_n hx hb dL_law_1338 rfl (lv_at hl 19 rfl) ?_
    refine lv_aload_n hx hb dL_law_1339 rfl (lv_at hl 18 rfl) ?_
    refine lv_aload hx hb dL_law_1340 (lv_at hl 17 rfl) ?_
    refine lv_aload hx hb dL_law_1342 (lv_at hl 14 rfl) ?_
    refine lv_aload hx hb dL_law_1344 (lv_at hl 11 rfl) ?_
    refine k_iA (k_SA (As := [.ref (g + 1), .ref (g + 2), .ref (g + 3), .ref (g + 6), .ref (g + 9)]) (rest := [.int ((runS (sY M) (sT M + 1) (sE M) (stgs (sY M) (sY M).1)).2)]) ⟨hx, hb, hml, hown, hts⟩ hev hS hAS (c_L_run l hL hT.1 iE.1 hR.2.2.1 iY hR.2.2.2.1) (va_cwS 5 hts gL_law_L_run rfl rfl rfl (by decide +kernel) ⟨Nat.le_of_ble_eq_true rfl, Nat.le_of_ble_eq_true rfl⟩) rfl hl.1 (Nat.le_of_ble_eq_true rfl) dL_law_1346 (by show _ ≤ (704995 : Nat); omega) (by show _ ≤ (6986640 : Nat); omega)) hS hAS (fun rq2_ H2 locs2 hP hz2 hk2 hS => ?_)
    refine W.widen (k := 200 + 4400 * k + 1) (n := 5000 + 50000 * k + 6) (Nat.le_refl _) (Nat.le_refl _) ?_
    obtain ⟨er, Y5, hL, hE5, ht5, hj5, h95⟩ := hP
    have hPK := hPK.w hL hz2 hk2
    refine x_top (y := ((runS (sY M) (sT M + 1) (sE M) (stgs (sY M) (sY M).1)).2)) (er) ?_
    have hR8 : LRel Y5 ((runS (sY M) (sT M + 1) (sE M) (stgs (sY M) (sY M).1)).1, sR M, sQ M, sW M, sY M, sT M + 1) := ⟨⟨hE5, hT.2.1.cong rfl rfl (h95 0 (by decide)) (hj5 4 (by decide) (by decide) (by decide)), by rw [hj5 1 (by decide) (by decide) (by decide)]; show LPw _ (mAl (runS (sY M) (sT M + 1) (sE M) (stgs (sY M) (sY M).1)).1) _; rw [(runS_al _).1]; exact hT.2.2⟩, hR.2.1.same (hj5 5 (by decide) (by decide) (by decide)) (h95 2 (by decide)), hR.2.2.1.same (hj5 6 (by decide) (by decide) (by decide)) (h95 3 (by decide)), ht5, hR.2.2.2.2.off hoff (h95 4 (by decide))⟩
    refine lv_icmp_eq (tgt := 1955) hx hb dL_law_1349 (by decide) (fun c1349 => ?_) (fun c1349 => ?_)
    · refine W.widen (k := 200 + 4400 * k + 300) (n := 5000 + 50000 * k + 5400) (by omega) (by omega) ?_
      exact hchk _ _ _ _ ls hPK hR8 hI8 hS (lv_sub hl [10, 11, 12, 13, 14, 15, 16, 17, 18, 19, 20, 21] rfl)
    · exact absurd rfl c1349
  · have hon := bI_e1 c1317
    refine lv_aload_n hx hb dL_law_1320 rfl (lv_at hl 20 rfl) ?_
    refine lv_bipush (v := nI 10) hx hb dL_law_1321 (by decide) ?_
    refine lv_iconst (v := nI 0) hx hb dL_law_1323 (by decide) ?_
    refine lv_iconst (v := nI 0) hx hb dL_law_1324 (by decide) ?_
    refine k_iN (k_SW (As := [.ref b0, .int (nI 10), .int (nI 0), .int (nI 0)]) (rest := []) ⟨hx, hb, hml, hown, hts⟩ hev hS (r_L10 l hst hPK hI (nI 0) (nI 0) (w := 3) (by rw [rn_1 hon]; show ¬ (1 : Nat) = 0; decide) (by rw [rn_1 hon]; rfl)) (vx_cwSW 4 hts gL_law_L_refused rfl rfl rfl (by decide +kernel) ⟨Nat.le_of_ble_eq_true rfl, Nat.le_of_ble_eq_true rfl⟩) rfl hl.1 (Nat.le_of_ble_eq_true rfl) dL_law_1325 (by show _ ≤ (704995 : Nat); omega) (by show _ ≤ (6986640 : Nat); omega)) hS (fun rq3_ H3 locs3 hP hz3 hS => ?_)
    have er := hP.1
    have hPK := hP.2
    have hL := hPK.sl
    refine x_top (y := (nI 3)) (er) ?_
    refine lv_iconst (v := nI 3) hx hb dL_law_1328 (by decide) ?_
    refine y_icmp_eq hx hb (by decide) (by decide) (tgt := 1986) dL_law_1329 (by decide) (fun c1329 => ?_) (fun c1329 => ?_)
    · refine W.widen (k := 200 + 4400 * (k + 1)) (n := 5000 + 50000 * (k + 1)) (by omega) (by omega) ?_
      exact hnxt _ _ _ _ ls hPK hR (hI.mono (by omega) (by omega)) hS (lv_sub hl [10, 11, 12, 13, 14, 15, 16, 17, 18, 19, 20, 21] rfl)
    · exact absurd c1329 (by decide)

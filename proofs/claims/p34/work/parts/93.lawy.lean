set_option maxHeartbeats 4000000 in
set_option maxRecDepth 100000 in
theorem law_system {p : Program} {l : Launch} {e : Env} {s : State} {m : MethodId} {below : List Frame} {meth : Method} {c : Code} {Q : State → Prop} {b : Nat} {D : va_G} {T : Nat → ClassId} {dE mi b0 g : Nat} (hst : l.stackTraces = false) (hx : p.tables.exec = Jvm.exec) (hb : c.code = cL_law) (hml : c.maxLocals = 26) (hown : s.vm.findClass RL = some m.cls) (hts : ∀ w ∈ wsL_law, w.before #[Value.ref b] s = true) (hev : EV D T dE mi (fun q : Nat => s.heap.size ≤ q) s) {k : Nat} (hk : k < 70) {H : Heap} {locs : List Loc} {M : mSt} {Y : Nat → Nat → Int32} (hPK : PK D T dE b0 (fun q : Nat => s.heap.size ≤ q) g Y M H) (hR : LRel Y M) (hI : Inv (800 * k) M) (hS : va_S (fun q : Nat => s.heap.size ≤ q) s.heap H locs) {kx ox px kd9 : Nat} {x z vx : Int32} {hv : Bool} (hkx : kx < 10) (hox : ox < 10) (hpx : px < 6) (hhv : mAl (sE M) kx = true → hv = bitS (mKd (sE M) kx) px) {ls : Array Slot} (hl : lv_has ls 26 [(21, .int (bI hv)), (20, .int (bI (mAl (sE M) kx))), (19, .int vx), (18, .int (nI px)), (17, .int (handle (sE M) kx)), (16, .int (nI ox)), (15, .int (nI kx)), (14, .int (nI kd9)), (13, .int z), (12, .int x), (11, .int (nI k)), (10, .ref (g + 9)), (9, .ref (g + 8)), (8, .ref (g + 7)), (7, .ref (g + 6)), (6, .ref (g + 5)), (5, .ref (g + 4)), (4, .ref (g + 3)), (3, .ref (g + 2)), (2, .ref (g + 1)), (1, .ref b0), (0, .ref b)])
    (hchk : ∀ (H1 : Heap) (locs1 : List Loc) (M1 : mSt) (Y1 : Nat → Nat → Int32) (ls1 : Array Slot), PK D T dE b0 (fun q : Nat => s.heap.size ≤ q) g Y1 M1 H1 → LRel Y1 M1 → Inv (800 * (k + 1)) M1 → va_S (fun q : Nat => s.heap.size ≤ q) s.heap H1 locs1 → lv_has ls1 26 [(11, .int (nI k)), (10, .ref (g + 9)), (9, .ref (g + 8)), (8, .ref (g + 7)), (7, .ref (g + 6)), (6, .ref (g + 5)), (5, .ref (g + 4)), (4, .ref (g + 3)), (3, .ref (g + 2)), (2, .ref (g + 1)), (1, .ref b0), (0, .ref b)] → W p l e room_1 s m #[Value.ref b] below meth c H1 locs1 (200 + 4400 * k + 300) (5000 + 50000 * k + 5400) Q (F0 m 1955 ls1 [])) (hnxt : ∀ (H1 : Heap) (locs1 : List Loc) (M1 : mSt) (Y1 : Nat → Nat → Int32) (ls1 : Array Slot), PK D T dE b0 (fun q : Nat => s.heap.size ≤ q) g Y1 M1 H1 → LRel Y1 M1 → Inv (800 * (k + 1)) M1 → va_S (fun q : Nat => s.heap.size ≤ q) s.heap H1 locs1 → lv_has ls1 26 [(11, .int (nI k)), (10, .ref (g + 9)), (9, .ref (g + 8)), (8, .ref (g + 7)), (7, .ref (g + 6)), (6, .ref (g + 5)), (5, .ref (g + 4)), (4, .ref (g + 3)), (3, .ref (g + 2)), (2, .ref (g + 1)), (1, .ref b0), (0, .ref b)] → W p l e room_1 s m #[Value.ref b] below meth c H1 locs1 (200 + 4400 * (k + 1)) (5000 + 50000 * (k + 1)) Q (F0 m 1986 ls1 [])) (hrtn : ∀ (H1 : Heap) (locs1 : List Loc) (ls1 : Array Slot), va_S (fun q : Nat => s.heap.size ≤ q) s.heap H1 locs1 → W p l e room_1 s m #[Value.ref b] below meth c H1 locs1 (200 + 4400 * (k + 1)) (5000 + 50000 * (k + 1)) Q (F0 m 1848 ls1 [.int (nI 1)])) : W p l e room_1 s m #[Value.ref b] below meth c H locs (200 + 4400 * k) (5000 + 50000 * k) Q (F0 m 1040 ls []) := by
  have hK := hev.1
  have hL := hPK.sl
  have hAS := hPK.as
  have hh := hI.had
  have iE := hI.1
  have iR := hI.2.1
  have hT := hR.1
  have h10 := hT.1.2.2.2.2.1
  have iY := hI.2.2.2.2.1
  have hz8 := iY.1
  refine lv_aload hx hb dL_law_1040 (lv_at hl 11 rfl) ?_
  refine lv_iconst (v := nI 3) hx hb dL_law_1042 (by decide) ?_
  refine n_ld9 (i := 3) hx hb hK hL (by omega) dL_law_1043 ?_
  refine x_top (y := (nI ((sY M).1))) (hR.2.2.1.1) ?_
  refine lv_bipush (v := nI 8) hx hb dL_law_1044 (by decide) ?_
  refine y_icmp_ne hx hb (by omega) (Nat.le_of_ble_eq_true rfl) (tgt := 1052) dL_law_1046 (by decide) (fun c1046 => ?_) (fun c1046 => ?_)
  · refine lv_iconst (v := nI 3) hx hb dL_law_1052 (by decide) ?_
    refine lv_aload hx hb dL_law_1053 (lv_at hl 11 rfl) ?_
    refine lv_iconst (v := nI 3) hx hb dL_law_1055 (by decide) ?_
    refine n_ld9 (i := 3) hx hb hK hL (by omega) dL_law_1056 ?_
    refine x_top (y := (nI ((sY M).1))) (hR.2.2.1.1) ?_
    refine y_imul hx hb dL_law_1057 ?_
    refine lv_istore (lv' := [(22, .int (nI (3 * ((sY M).1)))), (21, .int (bI hv)), (20, .int (bI (mAl (sE M) kx))), (19, .int vx), (18, .int (nI px)), (17, .int (handle (sE M) kx)), (16, .int (nI ox)), (15, .int (nI kx)), (14, .int (nI kd9)), (13, .int z), (12, .int x), (11, .int (nI k)), (10, .ref (g + 9)), (9, .ref (g + 8)), (8, .ref (g + 7)), (7, .ref (g + 6)), (6, .ref (g + 5)), (5, .ref (g + 4)), (4, .ref (g + 3)), (3, .ref (g + 2)), (2, .ref (g + 1)), (1, .ref b0), (0, .ref b)]) hx hb dL_law_1058 hl (by decide) rfl (fun ls hl => ?_)
    refine lv_aload hx hb dL_law_1060 (lv_at hl 15 rfl) ?_
    refine lv_iload hx hb dL_law_1062 (lv_at hl 0 rfl) ?_
    refine lv_iload hx hb dL_law_1064 (lv_at hl 9 rfl) ?_
    refine lv_bipush (v := nI 64) hx hb dL_law_1066 (by decide) ?_
    refine k_iN (k_S (As := [.int z, .int (nI 64)]) (rest := [.int (nI (3 * ((sY M).1))), .ref (g + 6)]) ⟨hx, hb, hml, hown, hts⟩ hev hS (c_L_low l (z) (q := 64) (by decide) (by decide)) (va_cwS 2 hts gL_law_L_low rfl rfl rfl (by decide +kernel) ⟨Nat.le_of_ble_eq_true rfl, Nat.le_of_ble_eq_true rfl⟩) rfl hl.1 (Nat.le_of_ble_eq_true rfl) dL_law_1068 (by show _ ≤ (704995 : Nat); omega) (by show _ ≤ (6986640 : Nat); omega)) hS (fun rq1_ H1 locs1 hP hz1 hS => ?_)
    refine W.widen (k := 200 + 4400 * k) (n := 5000 + 50000 * k) (Nat.le_refl _) (Nat.le_refl _) ?_
    have hPK : PK D T dE b0 (fun q : Nat => s.heap.size ≤ q) g Y M H1 := by rw [hP.1]; exact hPK
    have hL := hPK.sl
    obtain ⟨-, j1, hj1, ej1⟩ := hP
    refine x_top (y := (nI j1)) (ej1) ?_
    refine lv_iload hx hb dL_law_1071 (lv_at hl 9 rfl) ?_
    refine lv_bipush (v := nI 6) hx hb dL_law_1073 (by decide) ?_
    refine lv_ishr hx hb dL_law_1075 ?_
    refine lv_bipush (v := nI 64) hx hb dL_law_1076 (by decide) ?_
    refine k_iN (k_S (As := [.int (z >>> ((nI 6) &&& 31)), .int (nI 64)]) (rest := [.int (nI j1), .int (nI (3 * ((sY M).1))), .ref (g + 6)]) ⟨hx, hb, hml, hown, hts⟩ hev hS (c_L_low l (z >>> ((nI 6) &&& 31)) (q := 64) (by decide) (by decide)) (va_cwS 2 hts gL_law_L_low rfl rfl rfl (by decide +kernel) ⟨Nat.le_of_ble_eq_true rfl, Nat.le_of_ble_eq_true rfl⟩) rfl hl.1 (Nat.le_of_ble_eq_true rfl) dL_law_1078 (by show _ ≤ (704995 : Nat); omega) (by show _ ≤ (6986640 : Nat); omega)) hS (fun rq2_ H2 locs2 hP hz2 hS => ?_)
    refine W.widen (k := 200 + 4400 * k) (n := 5000 + 50000 * k) (Nat.le_refl _) (Nat.le_refl _) ?_
    have hPK : PK D T dE b0 (fun q : Nat => s.heap.size ≤ q) g Y M H2 := by rw [hP.1]; exact hPK
    have hL := hPK.sl
    obtain ⟨-, j2, hj2, ej2⟩ := hP
    refine x_top (y := (nI j2)) (ej2) ?_
    refine lv_iand hx hb dL_law_1081 ?_
    refine x_top (y := (nI (j1 &&& j2))) ((bit_and2 _ hj1 _ hj2).1) ?_
    refine n_st6 (i := 3 * ((sY M).1)) (v := (nI (j1 &&& j2))) hx hb hK hS hL hAS (by omega) dL_law_1082 (fun H3 locs3 hL hz3 hq3 hS => ?_)
    have hPK := hPK.w hL (Nat.le_of_eq hz3.symm) (fun q _ zz => hq3 q zz)
    obtain ⟨Y3, hPK, hL, hY3⟩ : ∃ Yn, PK D T dE b0 (fun q : Nat => s.heap.size ≤ q) g Yn M H3 ∧ SL T g Yn H3 ∧ Yn = up2 Y 6 (upd (Y 6) (3 * ((sY M).1)) (nI (j1 &&& j2))) := ⟨_, hPK, hL, rfl⟩
    refine lv_aload hx hb dL_law_1083 (lv_at hl 15 rfl) ?_
    refine lv_iload hx hb dL_law_1085 (lv_at hl 0 rfl) ?_
    refine lv_iconst (v := nI 1) hx hb dL_law_1087 (by decide) ?_
    refine y_iadd hx hb dL_law_1088 ?_
    refine lv_iload hx hb dL_law_1089 (lv_at hl 9 rfl) ?_
    refine lv_bipush (v := nI 12) hx hb dL_law_1091 (by decide) ?_
    refine lv_ishr hx hb dL_law_1093 ?_
    refine lv_bipush (v := nI 64) hx hb dL_law_1094 (by decide) ?_
    refine k_iN (k_S (As := [.int (z >>> ((nI 12) &&& 31)), .int (nI 64)]) (rest := [.int (nI ((3 * ((sY M).1)) + 1)), .ref (g + 6)]) ⟨hx, hb, hml, hown, hts⟩ hev hS (c_L_low l (z >>> ((nI 12) &&& 31)) (q := 64) (by decide) (by decide)) (va_cwS 2 hts gL_law_L_low rfl rfl rfl (by decide +kernel) ⟨Nat.le_of_ble_eq_true rfl, Nat.le_of_ble_eq_true rfl⟩) rfl hl.1 (Nat.le_of_ble_eq_true rfl) dL_law_1096 (by show _ ≤ (704995 : Nat); omega) (by show _ ≤ (6986640 : Nat); omega)) hS (fun rq4_ H4 locs4 hP hz4 hS => ?_)
    refine W.widen (k := 200 + 4400 * k) (n := 5000 + 50000 * k) (Nat.le_refl _) (Nat.le_refl _) ?_
    have hPK : PK D T dE b0 (fun q : Nat => s.heap.size ≤ q) g Y3 M H4 := by rw [hP.1]; exact hPK
    have hL := hPK.sl
    obtain ⟨-, j4, hj4, ej4⟩ := hP
    refine x_top (y := (nI j4)) (ej4) ?_
    refine lv_iload hx hb dL_law_1099 (lv_at hl 9 rfl) ?_
    refine lv_bipush (v := nI 18) hx hb dL_law_1101 (by decide) ?_
    refine lv_ishr hx hb dL_law_1103 ?_
    refine lv_bipush (v := nI 64) hx hb dL_law_1104 (by decide) ?_
    refine k_iN (k_S (As := [.int (z >>> ((nI 18) &&& 31)), .int (nI 64)]) (rest := [.int (nI j4), .int (nI ((3 * ((sY M).1)) + 1)), .ref (g + 6)]) ⟨hx, hb, hml, hown, hts⟩ hev hS (c_L_low l (z >>> ((nI 18) &&& 31)) (q := 64) (by decide) (by decide)) (va_cwS 2 hts gL_law_L_low rfl rfl rfl (by decide +kernel) ⟨Nat.le_of_ble_eq_true rfl, Nat.le_of_ble_eq_true rfl⟩) rfl hl.1 (Nat.le_of_ble_eq_true rfl) dL_law_1106 (by show _ ≤ (704995 : Nat); omega) (by show _ ≤ (6986640 : Nat); omega)) hS (fun rq5_ H5 locs5 hP hz5 hS => ?_)
    refine W.widen (k := 200 + 4400 * k) (n := 5000 + 50000 * k) (Nat.le_refl _) (Nat.le_refl _) ?_
    have hPK : PK D T dE b0 (fun q : Nat => s.heap.size ≤ q) g Y3 M H5 := by rw [hP.1]; exact hPK
    have hL := hPK.sl
    obtain ⟨-, j5, hj5, ej5⟩ := hP
    refine x_top (y := (nI j5)) (ej5) ?_
    refine lv_iand hx hb dL_law_1109 ?_
    refine x_top (y := (nI (j4 &&& j5))) ((bit_and2 _ hj4 _ hj5).1) ?_
    refine n_st6 (i := (3 * ((sY M).1)) + 1) (v := (nI (j4 &&& j5))) hx hb hK hS hL hAS (by omega) dL_law_1110 (fun H6 locs6 hL hz6 hq6 hS => ?_)
    have hPK := hPK.w hL (Nat.le_of_eq hz6.symm) (fun q _ zz => hq6 q zz)
    obtain ⟨Y6, hPK, hL, hY6⟩ : ∃ Yn, PK D T dE b0 (fun q : Nat => s.heap.size ≤ q) g Yn M H6 ∧ SL T g Yn H6 ∧ Yn = up2 Y3 6 (upd (Y3 6) ((3 * ((sY M).1)) + 1) (nI (j4 &&& j5))) := ⟨_, hPK, hL, rfl⟩
    refine lv_aload hx hb dL_law_1111 (lv_at hl 15 rfl) ?_
    refine lv_iload hx hb dL_law_1113 (lv_at hl 0 rfl) ?_
    refine lv_iconst (v := nI 2) hx hb dL_law_1115 (by decide) ?_
    refine y_iadd hx hb dL_law_1116 ?_
    refine lv_iconst (v := nI 0) hx hb dL_law_1117 (by decide) ?_
    refine n_st6 (i := (3 * ((sY M).1)) + 2) (v := (nI 0)) hx hb hK hS hL hAS (by omega) dL_law_1118 (fun H7 locs7 hL hz7 hq7 hS => ?_)
    have hPK := hPK.w hL (Nat.le_of_eq hz7.symm) (fun q _ zz => hq7 q zz)
    obtain ⟨Y7, hPK, hL, hY7⟩ : ∃ Yn, PK D T dE b0 (fun q : Nat => s.heap.size ≤ q) g Yn M H7 ∧ SL T g Yn H7 ∧ Yn = up2 Y6 6 (upd (Y6 6) ((3 * ((sY M).1)) + 2) (nI 0)) := ⟨_, hPK, hL, rfl⟩
    obtain ⟨rd9, hrd9⟩ : ∃ q, q = j1 &&& j2 := ⟨_, rfl⟩
    obtain ⟨wr9, hwr9⟩ : ∃ q, q = j4 &&& j5 := ⟨_, rfl⟩
    have rd64 : rd9 < 64 := by rw [hrd9]; exact (bit_and2 _ hj1 _ hj2).2
    have wr64 : wr9 < 64 := by rw [hwr9]; exact (bit_and2 _ hj4 _ hj5).2
    obtain ⟨Yb, hYb⟩ : ∃ Yb, Yb = Y7 := ⟨_, rfl⟩
    have eb0 : Yb 6 (3 * (sY M).1) = nI rd9 := by rw [hYb, hY7, hY6, hY3, hrd9]; simp [up2, upd]
    have eb1 : Yb 6 (3 * (sY M).1 + 1) = nI wr9 := by rw [hYb, hY7, hY6, hwr9]; simp [up2, upd]
    have eb2 : Yb 6 (3 * (sY M).1 + 2) = nI 0 := by rw [hYb, hY7]; simp [up2, upd]
    have eb3 : ∀ j, j < 3 * (sY M).1 → Yb 6 j = Y 6 j := fun j hj => by rw [hYb, hY7, hY6, hY3]; exact (upd_n (by omega)).trans ((upd_n (by omega)).trans (upd_n (by omega)))
    have eb4 : ∀ j, j ≠ 6 → Yb j = Y j := fun j hj => by rw [hYb, hY7, hY6, hY3]; simp only [up2, if_neg hj]
    refine lv_iconst (v := nI 0) hx hb dL_law_1119 (by decide) ?_
    refine lv_istore (lv' := [(23, .int (nI 0)), (22, .int (nI (3 * ((sY M).1)))), (21, .int (bI hv)), (20, .int (bI (mAl (sE M) kx))), (19, .int vx), (18, .int (nI px)), (17, .int (handle (sE M) kx)), (16, .int (nI ox)), (15, .int (nI kx)), (14, .int (nI kd9)), (13, .int z), (12, .int x), (11, .int (nI k)), (10, .ref (g + 9)), (9, .ref (g + 8)), (8, .ref (g + 7)), (7, .ref (g + 6)), (6, .ref (g + 5)), (5, .ref (g + 4)), (4, .ref (g + 3)), (3, .ref (g + 2)), (2, .ref (g + 1)), (1, .ref b0), (0, .ref b)]) hx hb dL_law_1120 hl (by decide) rfl (fun ls hl => ?_)
    have loop1122 : ∀ (n : Nat) (i9 : Nat) (Y9 : Nat → Nat → Int32) (H9 : Heap) (locs9 : List Loc), (sY M).1 - i9 < n → (i9 ≤ (sY M).1) → (PK D T dE b0 (fun q : Nat => s.heap.size ≤ q) g Y9 M H9) → (va_S (fun q : Nat => s.heap.size ≤ q) s.heap H9 locs9) → ((∀ j, Y9 6 j = if j = 3 * (sY M).1 + 2 then nI (stgTo (sY M) rd9 wr9 i9) else Yb 6 j) ∧ ∀ j, j ≠ 6 → Y9 j = Yb j) → ∀ (ls : Array Slot), lv_has ls 26 [(23, .int (nI i9)), (22, .int (nI (3 * ((sY M).1)))), (21, .int (bI hv)), (20, .int (bI (mAl (sE M) kx))), (19, .int vx), (18, .int (nI px)), (17, .int (handle (sE M) kx)), (16, .int (nI ox)), (15, .int (nI kx)), (14, .int (nI kd9)), (13, .int z), (12, .int x), (11, .int (nI k)), (10, .ref (g + 9)), (9, .ref (g + 8)), (8, .ref (g + 7)), (7, .ref (g + 6)), (6, .ref (g + 5)), (5, .ref (g + 4)), (4, .ref (g + 3)), (3, .ref (g + 2)), (2, .ref (g + 1)), (1, .ref b0), (0, .ref b)] → W p l e room_1 s m #[Value.ref b] below meth c H9 locs9 (200 + 4400 * k) (5000 + 50000 * k) Q (F0 m 1122 ls []) := by
      intro n
      induction n with
      | zero => intro i9 Y9 H9 locs9 hfuel; exact absurd hfuel (Nat.not_lt_zero _)
      | succ n ih1122 =>
        intro i9 Y9 H9 locs9 hfuel hi9 hPK hS hy9 ls hl
        have hL := hPK.sl
        refine lv_iload hx hb dL_law_1122 (lv_at hl 0 rfl) ?_
        refine lv_aload hx hb dL_law_1124 (lv_at hl 13 rfl) ?_
        refine lv_iconst (v := nI 3) hx hb dL_law_1126 (by decide) ?_
        refine n_ld9 (i := 3) hx hb hK hL (by omega) dL_law_1127 ?_
        refine x_top (y := (nI ((sY M).1))) (by rw [hy9.2 9 (by decide), eb4 9 (by decide)]; exact hR.2.2.1.1) ?_
        refine y_icmp_ge hx hb (by omega) (by omega) (tgt := 1232) dL_law_1128 (by decide) (fun c1128 => ?_) (fun c1128 => ?_)
        · refine lv_aload hx hb dL_law_1232 (lv_at hl 13 rfl) ?_
          refine lv_iconst (v := nI 3) hx hb dL_law_1234 (by decide) ?_
          refine lv_dup2_11 hx hb dL_law_1235 rfl rfl ?_
          refine n_ld9 (i := 3) hx hb hK hL (by omega) dL_law_1236 ?_
          refine x_top (y := (nI ((sY M).1))) (by rw [hy9.2 9 (by decide), eb4 9 (by decide)]; exact hR.2.2.1.1) ?_
          refine lv_iconst (v := nI 1) hx hb dL_law_1237 (by decide) ?_
          refine y_iadd hx hb dL_law_1238 ?_
          refine n_st9 (i := 3) (v := (nI (((sY M).1) + 1))) hx hb hK hS hL hAS (by omega) dL_law_1239 (fun H8 locs8 hL hz8 hq8 hS => ?_)
          have hPK := hPK.w hL (Nat.le_of_eq hz8.symm) (fun q _ zz => hq8 q zz)
          obtain ⟨Y8, hPK, hL, hY8⟩ : ∃ Yn, PK D T dE b0 (fun q : Nat => s.heap.size ≤ q) g Yn M H8 ∧ SL T g Yn H8 ∧ Yn = up2 Y9 9 (upd (Y9 9) 3 (nI (((sY M).1) + 1))) := ⟨_, hPK, hL, rfl⟩
          have hin : i9 = (sY M).1 := by omega
          have e11 : Y8 9 3 = nI ((sY M).1 + 1) := by rw [hY8]; rfl
          have e12 : ∀ j, j ≠ 9 → Y8 j = Y9 j := fun j hj => by rw [hY8]; simp only [up2, if_neg hj]
          have st9 := stgTo_le iY (rd := rd9) (wr := wr9) i9 hi9
          have d0 : Y8 6 (3 * (sY M).1) = nI rd9 := by rw [e12 6 (by decide), hy9.1, if_neg (by omega)]; exact eb0
          have d1 : Y8 6 (3 * (sY M).1 + 1) = nI wr9 := by rw [e12 6 (by decide), hy9.1, if_neg (by omega)]; exact eb1
          have d2 : Y8 6 (3 * (sY M).1 + 2) = nI (stgTo (sY M) rd9 wr9 (sY M).1) := by rw [e12 6 (by decide), hy9.1, if_pos rfl, hin]
          have d3 : ∀ j, j < 3 * (sY M).1 → Y8 6 j = Y 6 j := fun j hj => by rw [e12 6 (by decide), hy9.1, if_neg (by omega)]; exact eb3 j hj
          refine lv_aload_n hx hb dL_law_1240 rfl (lv_at hl 22 rfl) ?_
          refine lv_aload hx hb dL_law_1241 (lv_at hl 16 rfl) ?_
          refine lv_iload hx hb dL_law_1243 (lv_at hl 1 rfl) ?_
          refine n_ld6 (i := 3 * ((sY M).1)) hx hb hK hL (by omega) dL_law_1245 ?_
          have stn := stgTo_le iY (rd := rd9) (wr := wr9) (sY M).1 (Nat.le_refl _)
          refine x_top (y := (nI rd9)) (d0) ?_
          refine lv_aload hx hb dL_law_1246 (lv_at hl 16 rfl) ?_
          refine lv_iload hx hb dL_law_1248 (lv_at hl 1 rfl) ?_
          refine lv_iconst (v := nI 1) hx hb dL_law_1250 (by decide) ?_
          refine y_iadd hx hb dL_law_1251 ?_
          refine n_ld6 (i := (3 * ((sY M).1)) + 1) hx hb hK hL (by omega) dL_law_1252 ?_
          refine x_top (y := (nI wr9)) (d1) ?_
          refine k_iN (k_V (As := [.int (nI rd9), .int (nI wr9)]) (rest := []) ⟨hx, hb, hml, hown, hts⟩ hev hS (w_system l hst hPK hI (nI rd9) (nI wr9) (by rw [sy_0 rd64 wr64 c1046])) (cwV 2 hts gL_law_X6_system rfl rfl rfl (by decide +kernel) ⟨Nat.le_of_ble_eq_true rfl, Nat.le_of_ble_eq_true rfl⟩) (pk_recv hK hPK) rfl hl.1 (Nat.le_of_ble_eq_true rfl) dL_law_1253 (by show _ ≤ (704995 : Nat); omega) (by show _ ≤ (6986640 : Nat); omega)) hS (fun rq9_ H9 locs9 hP hz9 hS => ?_)
          rw [sy_0 rd64 wr64 c1046] at hP
          have er := hP.1
          have hPK := hP.2
          have hL := hPK.sl
          refine x_top (y := (nI (stgTo (sY M) rd9 wr9 (sY M).1))) (er) ?_
          have hI8 : Inv (800 * (k + 1)) (wY M ((sY M).1 + 1, nu (sY M).2.1 (sY M).1 rd9, nu (sY M).2.2.1 (sY M).1 wr9, nu (sY M).2.2.2 (sY M).1 (stgTo (sY M) rd9 wr9 (sY M).1))) := by have := i_system hI (nI rd9) (nI wr9); rw [sy_0 rd64 wr64 c1046] at this; exact this.mono (by omega) (by omega)
          have hR8 : LRel Y8 (wY M ((sY M).1 + 1, nu (sY M).2.1 (sY M).1 rd9, nu (sY M).2.2.1 (sY M).1 wr9, nu (sY M).2.2.2 (sY M).1 (stgTo (sY M) rd9 wr9 (sY M).1))) := hR.y (hR.2.2.1.add e11 d0 d1 d2 d3) (fun j h6 h9 => by rw [e12 j h9, hy9.2 j h6]; exact eb4 j h6) (fun i hi => by rw [hY8]; show upd (Y9 9) 3 _ i = _; rw [upd_n hi, hy9.2 9 (by decide), eb4 9 (by decide)])
          refine lv_aload hx hb dL_law_1256 (lv_at hl 16 rfl) ?_
          refine lv_iload hx hb dL_law_1258 (lv_at hl 1 rfl) ?_
          refine lv_iconst (v := nI 2) hx hb dL_law_1260 (by decide) ?_
          refine y_iadd hx hb dL_law_1261 ?_
          refine n_ld6 (i := (3 * ((sY M).1)) + 2) hx hb hK hL (by omega) dL_law_1262 ?_
          refine x_top (y := (nI (stgTo (sY M) rd9 wr9 (sY M).1))) (d2) ?_
          refine y_icmp_ne hx hb (by omega) (by omega) (tgt := 1300) dL_law_1263 (by decide) (fun c1263 => ?_) (fun c1263 => ?_)
          · exact absurd rfl c1263
          · refine lv_aload_n hx hb dL_law_1266 rfl (lv_at hl 22 rfl) ?_
            refine lv_aload hx hb dL_law_1267 (lv_at hl 13 rfl) ?_
            refine lv_iconst (v := nI 3) hx hb dL_law_1269 (by decide) ?_
            refine n_ld9 (i := 3) hx hb hK hL (by omega) dL_law_1270 ?_
            refine x_top (y := (nI ((sY M).1 + 1))) (e11) ?_
            refine lv_iconst (v := nI 1) hx hb dL_law_1271 (by decide) ?_
            refine y_isub hx hb (by omega) dL_law_1272 ?_
            refine x_top (y := (nI ((sY M).1))) (rfl) ?_
            refine k_iN (k_V (As := [.int (nI ((sY M).1))]) (rest := []) ⟨hx, hb, hml, hown, hts⟩ hev hS (w_stage l hst hPK hI8 (nI (sY M).1) (by rw [st_0 (M := (wY M ((sY M).1 + 1, nu (sY M).2.1 (sY M).1 rd9, nu (sY M).2.2.1 (sY M).1 wr9, nu (sY M).2.2.2 (sY M).1 (stgTo (sY M) rd9 wr9 (sY M).1)))) (show (sY M).1 < (sY M).1 + 1 by omega) (show (sY M).1 + 1 ≤ 8 by omega)]; rfl)) (cwV 1 hts gL_law_X6_stage rfl rfl rfl (by decide +kernel) ⟨Nat.le_of_ble_eq_true rfl, Nat.le_of_ble_eq_true rfl⟩) (pk_recv hK hPK) rfl hl.1 (Nat.le_of_ble_eq_true rfl) dL_law_1273 (by show _ ≤ (704995 : Nat); omega) (by show _ ≤ (6986640 : Nat); omega)) hS (fun rq10_ H10 locs10 hP hz10 hS => ?_)
            rw [st_0 (M := (wY M ((sY M).1 + 1, nu (sY M).2.1 (sY M).1 rd9, nu (sY M).2.2.1 (sY M).1 wr9, nu (sY M).2.2.2 (sY M).1 (stgTo (sY M) rd9 wr9 (sY M).1)))) (show (sY M).1 < (sY M).1 + 1 by omega) (show (sY M).1 + 1 ≤ 8 by omega)] at hP
            have er := hP.1
            have hPK : PK D T dE b0 (fun q : Nat => s.heap.size ≤ q) g Y8 (wY M ((sY M).1 + 1, nu (sY M).2.1 (sY M).1 rd9, nu (sY M).2.2.1 (sY M).1 wr9, nu (sY M).2.2.2 (sY M).1 (stgTo (sY M) rd9 wr9 (sY M).1))) H10 := hP.2
            have hL := hPK.sl
            refine x_top (y := (nI (stgTo (sY M) rd9 wr9 (sY M).1))) (by rw [er]; show nI (nu _ _ _ _) = _; rw [nu_s]) ?_
            refine lv_aload hx hb dL_law_1276 (lv_at hl 16 rfl) ?_
            refine lv_iload hx hb dL_law_1278 (lv_at hl 1 rfl) ?_
            refine lv_iconst (v := nI 2) hx hb dL_law_1280 (by decide) ?_
            refine y_iadd hx hb dL_law_1281 ?_
            refine n_ld6 (i := (3 * ((sY M).1)) + 2) hx hb hK hL (by omega) dL_law_1282 ?_
            refine x_top (y := (nI (stgTo (sY M) rd9 wr9 (sY M).1))) (d2) ?_
            refine y_icmp_ne hx hb (by omega) (by omega) (tgt := 1300) dL_law_1283 (by decide) (fun c1283 => ?_) (fun c1283 => ?_)
            · exact absurd rfl c1283
            · refine lv_aload_n hx hb dL_law_1286 rfl (lv_at hl 22 rfl) ?_
              refine k_iN (k_V (As := []) (rest := []) ⟨hx, hb, hml, hown, hts⟩ hev hS (w_stages l hst hPK hI8) (cwV 0 hts gL_law_X6_stages rfl rfl rfl (by decide +kernel) ⟨Nat.le_of_ble_eq_true rfl, Nat.le_of_ble_eq_true rfl⟩) (pk_recv hK hPK) rfl hl.1 (Nat.le_of_ble_eq_true rfl) dL_law_1287 (by show _ ≤ (704995 : Nat); omega) (by show _ ≤ (6986640 : Nat); omega)) hS (fun rq11_ H11 locs11 hP hz11 hS => ?_)
              refine W.widen (k := 200 + 4400 * k + 4 + 1) (n := 5000 + 50000 * k + 88 + 6) (Nat.le_refl _) (Nat.le_refl _) ?_
              have er := hP.1
              have hPK : PK D T dE b0 (fun q : Nat => s.heap.size ≤ q) g Y8 (wY M ((sY M).1 + 1, nu (sY M).2.1 (sY M).1 rd9, nu (sY M).2.2.1 (sY M).1 wr9, nu (sY M).2.2.2 (sY M).1 (stgTo (sY M) rd9 wr9 (sY M).1))) H11 := hP.2
              have hL := hPK.sl
              have hsg := stgs_all (Z := sY (wY M ((sY M).1 + 1, nu (sY M).2.1 (sY M).1 rd9, nu (sY M).2.2.1 (sY M).1 wr9, nu (sY M).2.2.2 (sY M).1 (stgTo (sY M) rd9 wr9 (sY M).1)))) ((sY M).1 + 1) (sY M).1 (by omega)
              have hsg : stgTo (sY M) rd9 wr9 (sY M).1 < stgs (sY (wY M ((sY M).1 + 1, nu (sY M).2.1 (sY M).1 rd9, nu (sY M).2.2.1 (sY M).1 wr9, nu (sY M).2.2.2 (sY M).1 (stgTo (sY M) rd9 wr9 (sY M).1)))) ((sY M).1 + 1) := by have e9 : (sY (wY M ((sY M).1 + 1, nu (sY M).2.1 (sY M).1 rd9, nu (sY M).2.2.1 (sY M).1 wr9, nu (sY M).2.2.2 (sY M).1 (stgTo (sY M) rd9 wr9 (sY M).1)))).2.2.2 (sY M).1 = stgTo (sY M) rd9 wr9 (sY M).1 := nu_s; rw [e9] at hsg; exact hsg
              have hsl := stgs_le (hI8.2.2.2.2.1) ((sY M).1 + 1) (Nat.le_refl _)
              refine x_top (y := (nI (stgs (sY (wY M ((sY M).1 + 1, nu (sY M).2.1 (sY M).1 rd9, nu (sY M).2.2.1 (sY M).1 wr9, nu (sY M).2.2.2 (sY M).1 (stgTo (sY M) rd9 wr9 (sY M).1)))) ((sY M).1 + 1)))) (er) ?_
              refine lv_aload hx hb dL_law_1290 (lv_at hl 16 rfl) ?_
              refine lv_iload hx hb dL_law_1292 (lv_at hl 1 rfl) ?_
              refine lv_iconst (v := nI 2) hx hb dL_law_1294 (by decide) ?_
              refine y_iadd hx hb dL_law_1295 ?_
              refine n_ld6 (i := (3 * ((sY M).1)) + 2) hx hb hK hL (by omega) dL_law_1296 ?_
              refine x_top (y := (nI (stgTo (sY M) rd9 wr9 (sY M).1))) (d2) ?_
              refine y_icmp_gt hx hb (by omega) (by omega) (tgt := 1302) dL_law_1297 (by decide) (fun c1297 => ?_) (fun c1297 => ?_)
              · refine lv_goto (tgt := 1955) hx hb dL_law_1302 (by decide) ?_
                refine W.widen (k := 200 + 4400 * k + 300) (n := 5000 + 50000 * k + 5400) (by omega) (by omega) ?_
                exact hchk _ _ _ _ ls hPK hR8 hI8 hS (lv_sub hl [12, 13, 14, 15, 16, 17, 18, 19, 20, 21, 22, 23] rfl)
              · omega
        · obtain ⟨ri64, wi64, -⟩ := iY.2 i9 c1128
          refine lv_aload hx hb dL_law_1131 (lv_at hl 16 rfl) ?_
          refine lv_iload hx hb dL_law_1133 (lv_at hl 1 rfl) ?_
          refine lv_iconst (v := nI 1) hx hb dL_law_1135 (by decide) ?_
          refine y_iadd hx hb dL_law_1136 ?_
          refine n_ld6 (i := (3 * ((sY M).1)) + 1) hx hb hK hL (by omega) dL_law_1137 ?_
          refine x_top (y := (nI wr9)) (by rw [hy9.1, if_neg (by omega)]; exact eb1) ?_
          refine lv_aload hx hb dL_law_1138 (lv_at hl 16 rfl) ?_
          refine lv_iconst (v := nI 3) hx hb dL_law_1140 (by decide) ?_
          refine lv_iload hx hb dL_law_1141 (lv_at hl 0 rfl) ?_
          refine y_imul hx hb dL_law_1143 ?_
          refine n_ld6 (i := 3 * i9) hx hb hK hL (by omega) dL_law_1144 ?_
          refine x_top (y := (nI ((sY M).2.1 i9))) (by rw [hy9.1, if_neg (by omega)]; exact (eb3 _ (by omega)).trans (hR.2.2.1.2 i9 c1128).1) ?_
          refine lv_aload hx hb dL_law_1145 (lv_at hl 16 rfl) ?_
          refine lv_iconst (v := nI 3) hx hb dL_law_1147 (by decide) ?_
          refine lv_iload hx hb dL_law_1148 (lv_at hl 0 rfl) ?_
          refine y_imul hx hb dL_law_1150 ?_
          refine lv_iconst (v := nI 1) hx hb dL_law_1151 (by decide) ?_
          refine y_iadd hx hb dL_law_1152 ?_
          refine n_ld6 (i := (3 * i9) + 1) hx hb hK hL (by omega) dL_law_1153 ?_
          refine x_top (y := (nI ((sY M).2.2.1 i9))) (by rw [hy9.1, if_neg (by omega)]; exact (eb3 _ (by omega)).trans (hR.2.2.1.2 i9 c1128).2.1) ?_
          refine lv_ior hx hb dL_law_1154 ?_
          refine x_top (y := (nI ((sY M).2.1 i9 ||| (sY M).2.2.1 i9))) ((bit_or _ ri64 _ wi64).1) ?_
          refine lv_iand hx hb dL_law_1155 ?_
          refine lv_if_ne (tgt := 1177) hx hb dL_law_1156 (by decide) (fun c1156 => ?_) (fun c1156 => ?_)
          · have hd1 : disB wr9 ((sY M).2.1 i9 ||| (sY M).2.2.1 i9) = false := disB_f wr64 (bit_or _ ri64 _ wi64).2 c1156
            refine lv_iconst (v := nI 1) hx hb dL_law_1177 (by decide) ?_
            refine lv_goto (tgt := 1182) hx hb dL_law_1178 (by decide) ?_
            have hbar : barB rd9 wr9 ((sY M).2.1 i9) ((sY M).2.2.1 i9) = true := by unfold barB; rw [hd1]; rfl
            refine lv_istore (lv' := [(24, .int (nI 1)), (23, .int (nI i9)), (22, .int (nI (3 * ((sY M).1)))), (21, .int (bI hv)), (20, .int (bI (mAl (sE M) kx))), (19, .int vx), (18, .int (nI px)), (17, .int (handle (sE M) kx)), (16, .int (nI ox)), (15, .int (nI kx)), (14, .int (nI kd9)), (13, .int z), (12, .int x), (11, .int (nI k)), (10, .ref (g + 9)), (9, .ref (g + 8)), (8, .ref (g + 7)), (7, .ref (g + 6)), (6, .ref (g + 5)), (5, .ref (g + 4)), (4, .ref (g + 3)), (3, .ref (g + 2)), (2, .ref (g + 1)), (1, .ref b0), (0, .ref b)]) hx hb dL_law_1182 hl (by decide) rfl (fun ls hl => ?_)
            refine lv_iload hx hb dL_law_1184 (lv_at hl 0 rfl) ?_
            refine y_if_eq hx hb (by decide) (tgt := 1226) dL_law_1186 (by decide) (fun c1186 => ?_) (fun c1186 => ?_)
            · exact absurd c1186 (by decide)
            · refine lv_aload hx hb dL_law_1189 (lv_at hl 17 rfl) ?_
              refine lv_iconst (v := nI 3) hx hb dL_law_1191 (by decide) ?_
              refine lv_iload hx hb dL_law_1192 (lv_at hl 1 rfl) ?_
              refine y_imul hx hb dL_law_1194 ?_
              refine lv_iconst (v := nI 2) hx hb dL_law_1195 (by decide) ?_
              refine y_iadd hx hb dL_law_1196 ?_
              refine n_ld6 (i := (3 * i9) + 2) hx hb hK hL (by omega) dL_law_1197 ?_
              refine x_top (y := (nI ((sY M).2.2.2 i9))) (by rw [hy9.1, if_neg (by omega)]; exact (eb3 _ (by omega)).trans (hR.2.2.1.2 i9 c1128).2.2) ?_
              refine lv_aload hx hb dL_law_1198 (lv_at hl 17 rfl) ?_
              refine lv_iload hx hb dL_law_1200 (lv_at hl 2 rfl) ?_
              refine lv_iconst (v := nI 2) hx hb dL_law_1202 (by decide) ?_
              refine y_iadd hx hb dL_law_1203 ?_
              refine n_ld6 (i := (3 * ((sY M).1)) + 2) hx hb hK hL (by omega) dL_law_1204 ?_
              refine x_top (y := (nI (stgTo (sY M) rd9 wr9 i9))) (by rw [hy9.1, if_pos rfl]) ?_
              have sg9 := (iY.2 i9 c1128).2.2
              have st9 := stgTo_le iY (rd := rd9) (wr := wr9) i9 hi9
              refine y_icmp_lt hx hb (by omega) (by omega) (tgt := 1226) dL_law_1205 (by decide) (fun c1205 => ?_) (fun c1205 => ?_)
              · have hst9 := stgTo_f (rd := rd9) (wr := wr9) (Or.inr c1205)
                refine lv_iinc (v := (nI (i9 + 1))) (lv' := [(23, .int (nI (i9 + 1))), (24, .int (nI 1)), (22, .int (nI (3 * ((sY M).1)))), (21, .int (bI hv)), (20, .int (bI (mAl (sE M) kx))), (19, .int vx), (18, .int (nI px)), (17, .int (handle (sE M) kx)), (16, .int (nI ox)), (15, .int (nI kx)), (14, .int (nI kd9)), (13, .int z), (12, .int x), (11, .int (nI k)), (10, .ref (g + 9)), (9, .ref (g + 8)), (8, .ref (g + 7)), (7, .ref (g + 6)), (6, .ref (g + 5)), (5, .ref (g + 4)), (4, .ref (g + 3)), (3, .ref (g + 2)), (2, .ref (g + 1)), (1, .ref b0), (0, .ref b)]) hx hb dL_law_1226 hl (k := 1) rfl (nI_inc _) (by decide) rfl (fun ls hl => ?_)
                refine lv_goto (tgt := 1122) hx hb dL_law_1229 (by decide) ?_
                exact ih1122 (i9 + 1) Y9 H9 locs9 (by omega) (by omega) hPK hS (by rw [hst9]; exact hy9) ls (lv_sub hl [0, 2, 3, 4, 5, 6, 7, 8, 9, 10, 11, 12, 13, 14, 15, 16, 17, 18, 19, 20, 21, 22, 23, 24] rfl)
              · refine lv_aload hx hb dL_law_1208 (lv_at hl 17 rfl) ?_
                refine lv_iload hx hb dL_law_1210 (lv_at hl 2 rfl) ?_
                refine lv_iconst (v := nI 2) hx hb dL_law_1212 (by decide) ?_
                refine y_iadd hx hb dL_law_1213 ?_
                refine lv_aload hx hb dL_law_1214 (lv_at hl 17 rfl) ?_
                refine lv_iconst (v := nI 3) hx hb dL_law_1216 (by decide) ?_
                refine lv_iload hx hb dL_law_1217 (lv_at hl 1 rfl) ?_
                refine y_imul hx hb dL_law_1219 ?_
                refine lv_iconst (v := nI 2) hx hb dL_law_1220 (by decide) ?_
                refine y_iadd hx hb dL_law_1221 ?_
                refine n_ld6 (i := (3 * i9) + 2) hx hb hK hL (by omega) dL_law_1222 ?_
                refine x_top (y := (nI ((sY M).2.2.2 i9))) (by rw [hy9.1, if_neg (by omega)]; exact (eb3 _ (by omega)).trans (hR.2.2.1.2 i9 c1128).2.2) ?_
                refine lv_iconst (v := nI 1) hx hb dL_law_1223 (by decide) ?_
                refine y_iadd hx hb dL_law_1224 ?_
                refine n_st6 (i := (3 * ((sY M).1)) + 2) (v := (nI (((sY M).2.2.2 i9) + 1))) hx hb hK hS hL hAS (by omega) dL_law_1225 (fun H12 locs12 hL hz12 hq12 hS => ?_)
                have hPK := hPK.w hL (Nat.le_of_eq hz12.symm) (fun q _ zz => hq12 q zz)
                obtain ⟨Y12, hPK, hL, hY12⟩ : ∃ Yn, PK D T dE b0 (fun q : Nat => s.heap.size ≤ q) g Yn M H12 ∧ SL T g Yn H12 ∧ Yn = up2 Y9 6 (upd (Y9 6) ((3 * ((sY M).1)) + 2) (nI (((sY M).2.2.2 i9) + 1))) := ⟨_, hPK, hL, rfl⟩
                have hst9 := stgTo_t hbar (Nat.not_lt.mpr c1205)
                refine lv_iinc (v := (nI (i9 + 1))) (lv' := [(23, .int (nI (i9 + 1))), (24, .int (nI 1)), (22, .int (nI (3 * ((sY M).1)))), (21, .int (bI hv)), (20, .int (bI (mAl (sE M) kx))), (19, .int vx), (18, .int (nI px)), (17, .int (handle (sE M) kx)), (16, .int (nI ox)), (15, .int (nI kx)), (14, .int (nI kd9)), (13, .int z), (12, .int x), (11, .int (nI k)), (10, .ref (g + 9)), (9, .ref (g + 8)), (8, .ref (g + 7)), (7, .ref (g + 6)), (6, .ref (g + 5)), (5, .ref (g + 4)), (4, .ref (g + 3)), (3, .ref (g + 2)), (2, .ref (g + 1)), (1, .ref b0), (0, .ref b)]) hx hb dL_law_1226 hl (k := 1) rfl (nI_inc _) (by decide) rfl (fun ls hl => ?_)
                refine lv_goto (tgt := 1122) hx hb dL_law_1229 (by decide) ?_
                exact ih1122 (i9 + 1) Y12 H12 locs12 (by omega) (by omega) hPK hS ⟨fun j => by rw [hst9, hY12]; show (if j = 3 * (sY M).1 + 2 then _ else Y9 6 j) = _; by_cases c : j = 3 * (sY M).1 + 2; rw [if_pos c, if_pos c]; rw [if_neg c, if_neg c, hy9.1, if_neg c], fun j hj => by rw [hY12]; simp only [up2, if_neg hj]; exact hy9.2 j hj⟩ ls (lv_sub hl [0, 2, 3, 4, 5, 6, 7, 8, 9, 10, 11, 12, 13, 14, 15, 16, 17, 18, 19, 20, 21, 22, 23, 24] rfl)
          · have hd1 : disB wr9 ((sY M).2.1 i9 ||| (sY M).2.2.1 i9) = true := (bit_dis0 wr64 (bit_or _ ri64 _ wi64).2).mp c1156
            refine lv_aload hx hb dL_law_1159 (lv_at hl 16 rfl) ?_
            refine lv_iconst (v := nI 3) hx hb dL_law_1161 (by decide) ?_
            refine lv_iload hx hb dL_law_1162 (lv_at hl 0 rfl) ?_
            refine y_imul hx hb dL_law_1164 ?_
            refine lv_iconst (v := nI 1) hx hb dL_law_1165 (by decide) ?_
            refine y_iadd hx hb dL_law_1166 ?_
            refine n_ld6 (i := (3 * i9) + 1) hx hb hK hL (by omega) dL_law_1167 ?_
            refine x_top (y := (nI ((sY M).2.2.1 i9))) (by rw [hy9.1, if_neg (by omega)]; exact (eb3 _ (by omega)).trans (hR.2.2.1.2 i9 c1128).2.1) ?_
            refine lv_aload hx hb dL_law_1168 (lv_at hl 16 rfl) ?_
            refine lv_iload hx hb dL_law_1170 (lv_at hl 1 rfl) ?_
            refine n_ld6 (i := 3 * ((sY M).1)) hx hb hK hL (by omega) dL_law_1172 ?_
            refine x_top (y := (nI rd9)) (by rw [hy9.1, if_neg (by omega)]; exact eb0) ?_
            refine lv_iand hx hb dL_law_1173 ?_
            refine lv_if_eq (tgt := 1181) hx hb dL_law_1174 (by decide) (fun c1174 => ?_) (fun c1174 => ?_)
            · have hd2 : disB ((sY M).2.2.1 i9) rd9 = true := (bit_dis0 wi64 rd64).mp c1174
              refine lv_iconst (v := nI 0) hx hb dL_law_1181 (by decide) ?_
              have hbar : barB rd9 wr9 ((sY M).2.1 i9) ((sY M).2.2.1 i9) = false := by unfold barB; rw [hd1, hd2]; rfl
              refine lv_istore (lv' := [(24, .int (nI 0)), (23, .int (nI i9)), (22, .int (nI (3 * ((sY M).1)))), (21, .int (bI hv)), (20, .int (bI (mAl (sE M) kx))), (19, .int vx), (18, .int (nI px)), (17, .int (handle (sE M) kx)), (16, .int (nI ox)), (15, .int (nI kx)), (14, .int (nI kd9)), (13, .int z), (12, .int x), (11, .int (nI k)), (10, .ref (g + 9)), (9, .ref (g + 8)), (8, .ref (g + 7)), (7, .ref (g + 6)), (6, .ref (g + 5)), (5, .ref (g + 4)), (4, .ref (g + 3)), (3, .ref (g + 2)), (2, .ref (g + 1)), (1, .ref b0), (0, .ref b)]) hx hb dL_law_1182 hl (by decide) rfl (fun ls hl => ?_)
              refine lv_iload hx hb dL_law_1184 (lv_at hl 0 rfl) ?_
              refine y_if_eq hx hb (by decide) (tgt := 1226) dL_law_1186 (by decide) (fun c1186 => ?_) (fun c1186 => ?_)
              · have hst9 := stgTo_f (Or.inl hbar)
                refine lv_iinc (v := (nI (i9 + 1))) (lv' := [(23, .int (nI (i9 + 1))), (24, .int (nI 0)), (22, .int (nI (3 * ((sY M).1)))), (21, .int (bI hv)), (20, .int (bI (mAl (sE M) kx))), (19, .int vx), (18, .int (nI px)), (17, .int (handle (sE M) kx)), (16, .int (nI ox)), (15, .int (nI kx)), (14, .int (nI kd9)), (13, .int z), (12, .int x), (11, .int (nI k)), (10, .ref (g + 9)), (9, .ref (g + 8)), (8, .ref (g + 7)), (7, .ref (g + 6)), (6, .ref (g + 5)), (5, .ref (g + 4)), (4, .ref (g + 3)), (3, .ref (g + 2)), (2, .ref (g + 1)), (1, .ref b0), (0, .ref b)]) hx hb dL_law_1226 hl (k := 1) rfl (nI_inc _) (by decide) rfl (fun ls hl => ?_)
                refine lv_goto (tgt := 1122) hx hb dL_law_1229 (by decide) ?_
                exact ih1122 (i9 + 1) Y9 H9 locs9 (by omega) (by omega) hPK hS (by rw [hst9]; exact hy9) ls (lv_sub hl [0, 2, 3, 4, 5, 6, 7, 8, 9, 10, 11, 12, 13, 14, 15, 16, 17, 18, 19, 20, 21, 22, 23, 24] rfl)
              · exact absurd c1186 (by decide)
            · have hd2 : disB ((sY M).2.2.1 i9) rd9 = false := disB_f wi64 rd64 c1174
              refine lv_iconst (v := nI 1) hx hb dL_law_1177 (by decide) ?_
              refine lv_goto (tgt := 1182) hx hb dL_law_1178 (by decide) ?_
              have hbar : barB rd9 wr9 ((sY M).2.1 i9) ((sY M).2.2.1 i9) = true := by unfold barB; rw [hd1, hd2]; rfl
              refine lv_istore (lv' := [(24, .int (nI 1)), (23, .int (nI i9)), (22, .int (nI (3 * ((sY M).1)))), (21, .int (bI hv)), (20, .int (bI (mAl (sE M) kx))), (19, .int vx), (18, .int (nI px)), (17, .int (handle (sE M) kx)), (16, .int (nI ox)), (15, .int (nI kx)), (14, .int (nI kd9)), (13, .int z), (12, .int x), (11, .int (nI k)), (10, .ref (g + 9)), (9, .ref (g + 8)), (8, .ref (g + 7)), (7, .ref (g + 6)), (6, .ref (g + 5)), (5, .ref (g + 4)), (4, .ref (g + 3)), (3, .ref (g + 2)), (2, .ref (g + 1)), (1, .ref b0), (0, .ref b)]) hx hb dL_law_1182 hl (by decide) rfl (fun ls hl => ?_)
              refine lv_iload hx hb dL_law_1184 (lv_at hl 0 rfl) ?_
              refine y_if_eq hx hb (by decide) (tgt := 1226) dL_law_1186 (by decide) (fun c1186 => ?_) (fun c1186 => ?_)
              · exact absurd c1186 (by decide)
              · refine lv_aload hx hb dL_law_1189 (lv_at hl 17 rfl) ?_
                refine lv_iconst (v := nI 3) hx hb dL_law_1191 (by decide) ?_
                refine lv_iload hx hb dL_law_1192 (lv_at hl 1 rfl) ?_
                refine y_imul hx hb dL_law_1194 ?_
                refine lv_iconst (v := nI 2) hx hb dL_law_1195 (by decide) ?_
                refine y_iadd hx hb dL_law_1196 ?_
                refine n_ld6 (i := (3 * i9) + 2) hx hb hK hL (by omega) dL_law_1197 ?_
                refine x_top (y := (nI ((sY M).2.2.2 i9))) (by rw [hy9.1, if_neg (by omega)]; exact (eb3 _ (by omega)).trans (hR.2.2.1.2 i9 c1128).2.2) ?_
                refine lv_aload hx hb dL_law_1198 (lv_at hl 17 rfl) ?_
                refine lv_iload hx hb dL_law_1200 (lv_at hl 2 rfl) ?_
                refine lv_iconst (v := nI 2) hx hb dL_law_1202 (by decide) ?_
                refine y_iadd hx hb dL_law_1203 ?_
                refine n_ld6 (i := (3 * ((sY M).1)) + 2) hx hb hK hL (by omega) dL_law_1204 ?_
                refine x_top (y := (nI (stgTo (sY M) rd9 wr9 i9))) (by rw [hy9.1, if_pos rfl]) ?_
                have sg9 := (iY.2 i9 c1128).2.2
                have st9 := stgTo_le iY (rd := rd9) (wr := wr9) i9 hi9
                refine y_icmp_lt hx hb (by omega) (by omega) (tgt := 1226) dL_law_1205 (by decide) (fun c1205 => ?_) (fun c1205 => ?_)
                · have hst9 := stgTo_f (rd := rd9) (wr := wr9) (Or.inr c1205)
                  refine lv_iinc (v := (nI (i9 + 1))) (lv' := [(23, .int (nI (i9 + 1))), (24, .int (nI 1)), (22, .int (nI (3 * ((sY M).1)))), (21, .int (bI hv)), (20, .int (bI (mAl (sE M) kx))), (19, .int vx), (18, .int (nI px)), (17, .int (handle (sE M) kx)), (16, .int (nI ox)), (15, .int (nI kx)), (14, .int (nI kd9)), (13, .int z), (12, .int x), (11, .int (nI k)), (10, .ref (g + 9)), (9, .ref (g + 8)), (8, .ref (g + 7)), (7, .ref (g + 6)), (6, .ref (g + 5)), (5, .ref (g + 4)), (4, .ref (g + 3)), (3, .ref (g + 2)), (2, .ref (g + 1)), (1, .ref b0), (0, .ref b)]) hx hb dL_law_1226 hl (k := 1) rfl (nI_inc _) (by decide) rfl (fun ls hl => ?_)
                  refine lv_goto (tgt := 1122) hx hb dL_law_1229 (by decide) ?_
                  exact ih1122 (i9 + 1) Y9 H9 locs9 (by omega) (by omega) hPK hS (by rw [hst9]; exact hy9) ls (lv_sub hl [0, 2, 3, 4, 5, 6, 7, 8, 9, 10, 11, 12, 13, 14, 15, 16, 17, 18, 19, 20, 21, 22, 23, 24] rfl)
                · refine lv_aload hx hb dL_law_1208 (lv_at hl 17 rfl) ?_
                  refine lv_iload hx hb dL_law_1210 (lv_at hl 2 rfl) ?_
                  refine lv_iconst (v := nI 2) hx hb dL_law_1212 (by decide) ?_
                  refine y_iadd hx hb dL_law_1213 ?_
                  refine lv_aload hx hb dL_law_1214 (lv_at hl 17 rfl) ?_
                  refine lv_iconst (v := nI 3) hx hb dL_law_1216 (by decide) ?_
                  refine lv_iload hx hb dL_law_1217 (lv_at hl 1 rfl) ?_
                  refine y_imul hx hb dL_law_1219 ?_
                  refine lv_iconst (v := nI 2) hx hb dL_law_1220 (by decide) ?_
                  refine y_iadd hx hb dL_law_1221 ?_
                  refine n_ld6 (i := (3 * i9) + 2) hx hb hK hL (by omega) dL_law_1222 ?_
                  refine x_top (y := (nI ((sY M).2.2.2 i9))) (by rw [hy9.1, if_neg (by omega)]; exact (eb3 _ (by omega)).trans (hR.2.2.1.2 i9 c1128).2.2) ?_
                  refine lv_iconst (v := nI 1) hx hb dL_law_1223 (by decide) ?_
                  refine y_iadd hx hb dL_law_1224 ?_
                  refine n_st6 (i := (3 * ((sY M).1)) + 2) (v := (nI (((sY M).2.2.2 i9) + 1))) hx hb hK hS hL hAS (by omega) dL_law_1225 (fun H13 locs13 hL hz13 hq13 hS => ?_)
                  have hPK := hPK.w hL (Nat.le_of_eq hz13.symm) (fun q _ zz => hq13 q zz)
                  obtain ⟨Y13, hPK, hL, hY13⟩ : ∃ Yn, PK D T dE b0 (fun q : Nat => s.heap.size ≤ q) g Yn M H13 ∧ SL T g Yn H13 ∧ Yn = up2 Y9 6 (upd (Y9 6) ((3 * ((sY M).1)) + 2) (nI (((sY M).2.2.2 i9) + 1))) := ⟨_, hPK, hL, rfl⟩
                  have hst9 := stgTo_t hbar (Nat.not_lt.mpr c1205)
                  refine lv_iinc (v := (nI (i9 + 1))) (lv' := [(23, .int (nI (i9 + 1))), (24, .int (nI 1)), (22, .int (nI (3 * ((sY M).1)))), (21, .int (bI hv)), (20, .int (bI (mAl (sE M) kx))), (19, .int vx), (18, .int (nI px)), (17, .int (handle (sE M) kx)), (16, .int (nI ox)), (15, .int (nI kx)), (14, .int (nI kd9)), (13, .int z), (12, .int x), (11, .int (nI k)), (10, .ref (g + 9)), (9, .ref (g + 8)), (8, .ref (g + 7)), (7, .ref (g + 6)), (6, .ref (g + 5)), (5, .ref (g + 4)), (4, .ref (g + 3)), (3, .ref (g + 2)), (2, .ref (g + 1)), (1, .ref b0), (0, .ref b)]) hx hb dL_law_1226 hl (k := 1) rfl (nI_inc _) (by decide) rfl (fun ls hl => ?_)
                  refine lv_goto (tgt := 1122) hx hb dL_law_1229 (by decide) ?_
                  exact ih1122 (i9 + 1) Y13 H13 locs13 (by omega) (by omega) hPK hS ⟨fun j => by rw [hst9, hY13]; show (if j = 3 * (sY M).1 + 2 then _ else Y9 6 j) = _; by_cases c : j = 3 * (sY M).1 + 2; rw [if_pos c, if_pos c]; rw [if_neg c, if_neg c, hy9.1, if_neg c], fun j hj => by rw [hY13]; simp only [up2, if_neg hj]; exact hy9.2 j hj⟩ ls (lv_sub hl [0, 2, 3, 4, 5, 6, 7, 8, 9, 10, 11, 12, 13, 14, 15, 16, 17, 18, 19, 20, 21, 22, 23, 24] rfl)
    exact loop1122 (((sY M).1 - 0) + 1) 0 Y7 H7 locs7 (Nat.lt_succ_self _) (Nat.zero_le _) hPK hS ⟨fun j => by rw [← hYb]; by_cases c : j = 3 * (sY M).1 + 2; rw [if_pos c, c]; exact eb2; rw [if_neg c], fun j hj => by rw [← hYb]⟩ ls (lv_sub hl [0, 1, 2, 3, 4, 5, 6, 7, 8, 9, 10, 11, 12, 13, 14, 15, 16, 17, 18, 19, 20, 21, 22, 23] rfl)
  · refine lv_goto (tgt := 1986) hx hb dL_law_1049 (by decide) ?_
    refine W.widen (k := 200 + 4400 * (k + 1)) (n := 5000 + 50000 * (k + 1)) (by omega) (by omega) ?_
    exact hnxt _ _ _ _ ls hPK hR (hI.mono (by omega) (by omega)) hS (lv_sub hl [10, 11, 12, 13, 14, 15, 16, 17, 18, 19, 20, 21] rfl)

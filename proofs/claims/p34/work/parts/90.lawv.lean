set_option maxHeartbeats 4000000 in
set_option maxRecDepth 100000 in
theorem law_make {p : Program} {l : Launch} {e : Env} {s : State} {m : MethodId} {below : List Frame} {meth : Method} {c : Code} {Q : State → Prop} {b : Nat} {D : va_G} {T : Nat → ClassId} {dE mi b0 g : Nat} (hst : l.stackTraces = false) (hx : p.tables.exec = Jvm.exec) (hb : c.code = cL_law) (hml : c.maxLocals = 26) (hown : s.vm.findClass RL = some m.cls) (hts : ∀ w ∈ wsL_law, w.before #[Value.ref b] s = true) (hev : EV D T dE mi (fun q : Nat => s.heap.size ≤ q) s) {k : Nat} (hk : k < 70) {H : Heap} {locs : List Loc} {M : mSt} {Y : Nat → Nat → Int32} (hPK : PK D T dE b0 (fun q : Nat => s.heap.size ≤ q) g Y M H) (hR : LRel Y M) (hI : Inv (800 * k) M) (hS : va_S (fun q : Nat => s.heap.size ≤ q) s.heap H locs) {kx ox px kd9 : Nat} {x z vx : Int32} {hv : Bool} (hkx : kx < 10) (hox : ox < 10) (hpx : px < 6) (hhv : mAl (sE M) kx = true → hv = bitS (mKd (sE M) kx) px) {ls : Array Slot} (hl : lv_has ls 26 [(21, .int (bI hv)), (20, .int (bI (mAl (sE M) kx))), (19, .int vx), (18, .int (nI px)), (17, .int (handle (sE M) kx)), (16, .int (nI ox)), (15, .int (nI kx)), (14, .int (nI kd9)), (13, .int z), (12, .int x), (11, .int (nI k)), (10, .ref (g + 9)), (9, .ref (g + 8)), (8, .ref (g + 7)), (7, .ref (g + 6)), (6, .ref (g + 5)), (5, .ref (g + 4)), (4, .ref (g + 3)), (3, .ref (g + 2)), (2, .ref (g + 1)), (1, .ref b0), (0, .ref b)])
    (hchk : ∀ (H1 : Heap) (locs1 : List Loc) (M1 : mSt) (Y1 : Nat → Nat → Int32) (ls1 : Array Slot), PK D T dE b0 (fun q : Nat => s.heap.size ≤ q) g Y1 M1 H1 → LRel Y1 M1 → Inv (800 * (k + 1)) M1 → va_S (fun q : Nat => s.heap.size ≤ q) s.heap H1 locs1 → lv_has ls1 26 [(11, .int (nI k)), (10, .ref (g + 9)), (9, .ref (g + 8)), (8, .ref (g + 7)), (7, .ref (g + 6)), (6, .ref (g + 5)), (5, .ref (g + 4)), (4, .ref (g + 3)), (3, .ref (g + 2)), (2, .ref (g + 1)), (1, .ref b0), (0, .ref b)] → W p l e room_1 s m #[Value.ref b] below meth c H1 locs1 (200 + 4400 * k + 300) (5000 + 50000 * k + 5400) Q (F0 m 1955 ls1 [])) (hnxt : ∀ (H1 : Heap) (locs1 : List Loc) (M1 : mSt) (Y1 : Nat → Nat → Int32) (ls1 : Array Slot), PK D T dE b0 (fun q : Nat => s.heap.size ≤ q) g Y1 M1 H1 → LRel Y1 M1 → Inv (800 * (k + 1)) M1 → va_S (fun q : Nat => s.heap.size ≤ q) s.heap H1 locs1 → lv_has ls1 26 [(11, .int (nI k)), (10, .ref (g + 9)), (9, .ref (g + 8)), (8, .ref (g + 7)), (7, .ref (g + 6)), (6, .ref (g + 5)), (5, .ref (g + 4)), (4, .ref (g + 3)), (3, .ref (g + 2)), (2, .ref (g + 1)), (1, .ref b0), (0, .ref b)] → W p l e room_1 s m #[Value.ref b] below meth c H1 locs1 (200 + 4400 * (k + 1)) (5000 + 50000 * (k + 1)) Q (F0 m 1986 ls1 [])) (hrtn : ∀ (H1 : Heap) (locs1 : List Loc) (ls1 : Array Slot), va_S (fun q : Nat => s.heap.size ≤ q) s.heap H1 locs1 → W p l e room_1 s m #[Value.ref b] below meth c H1 locs1 (200 + 4400 * (k + 1)) (5000 + 50000 * (k + 1)) Q (F0 m 1848 ls1 [.int (nI 1)])) : W p l e room_1 s m #[Value.ref b] below meth c H locs (200 + 4400 * k) (5000 + 50000 * k) Q (F0 m 206 ls []) := by
  have hK := hev.1
  have hL := hPK.sl
  have hAS := hPK.as
  have hh := hI.had
  have iE := hI.1
  have iR := hI.2.1
  have hT := hR.1
  have h10 := hT.1.2.2.2.2.1
  refine lv_aload hx hb dL_law_206 (lv_at hl 11 rfl) ?_
  refine lv_iconst (v := nI 4) hx hb dL_law_208 (by decide) ?_
  refine n_ld9 (i := 4) hx hb hK hL (by omega) dL_law_209 ?_
  refine x_top (y := (bI (wOn (sW M)))) (hR.2.2.2.2.1) ?_
  refine lv_iconst (v := nI 1) hx hb dL_law_210 (by decide) ?_
  refine lv_icmp_ne (tgt := 227) hx hb dL_law_211 (by decide) (fun c211 => ?_) (fun c211 => ?_)
  · have hoff := bI_n1 c211
    refine lv_aload_n hx hb dL_law_227 rfl (lv_at hl 19 rfl) ?_
    refine k_iN (k_S (As := [.ref (g + 1)]) (rest := []) ⟨hx, hb, hml, hown, hts⟩ hev hS (c_L_there l hL hT.1) (va_cwS 1 hts gL_law_L_there rfl rfl rfl (by decide +kernel) ⟨Nat.le_of_ble_eq_true rfl, Nat.le_of_ble_eq_true rfl⟩) rfl hl.1 (Nat.le_of_ble_eq_true rfl) dL_law_228 (by show _ ≤ (704995 : Nat); omega) (by show _ ≤ (6986640 : Nat); omega)) hS (fun rq1_ H1 locs1 hP hz1 hS => ?_)
    refine W.widen (k := 200 + 4400 * k) (n := 5000 + 50000 * k) (Nat.le_refl _) (Nat.le_refl _) ?_
    have hPK : PK D T dE b0 (fun q : Nat => s.heap.size ≤ q) g Y M H1 := by rw [hP.1]; exact hPK
    have hL := hPK.sl
    refine x_top (y := (nI (cnt (mAl (sE M)) 10))) (hP.2) ?_
    have hc10 := cnt_le (mAl (sE M)) 10
    refine lv_bipush (v := nI 8) hx hb dL_law_231 (by decide) ?_
    refine y_icmp_le hx hb (by omega) (Nat.le_of_ble_eq_true rfl) (tgt := 239) dL_law_233 (by decide) (fun c233 => ?_) (fun c233 => ?_)
    · have hf10 := free_10 (E := sE M) (by omega)
      refine lv_aload_n hx hb dL_law_239 rfl (lv_at hl 20 rfl) ?_
      refine k_iN (k_V (As := []) (rest := []) ⟨hx, hb, hml, hown, hts⟩ hev hS (w_make l hst hPK hI (by rw [mak_0 hoff hf10])) (cwV 0 hts gL_law_X6_make rfl rfl rfl (by decide +kernel) ⟨Nat.le_of_ble_eq_true rfl, Nat.le_of_ble_eq_true rfl⟩) (pk_recv hK hPK) rfl hl.1 (Nat.le_of_ble_eq_true rfl) dL_law_240 (by show _ ≤ (704995 : Nat); omega) (by show _ ≤ (6986640 : Nat); omega)) hS (fun rq2_ H2 locs2 hP hz2 hS => ?_)
      rw [mak_0 hoff hf10] at hP
      have er := hP.1
      have hPK := hP.2
      have hL := hPK.sl
      refine x_top (y := (handle (sE M) (free (sE M)))) (er) ?_
      have hI8 : Inv (800 * (k + 1)) (wER M (makesE (sE M) (free (sE M))) (rowAdd (sR M) 0 (free (sE M)))) := by have := i_make hI; rw [mak_0 hoff hf10] at this; exact this.mono (by omega) (by omega)
      refine lv_aload_n hx hb dL_law_243 rfl (lv_at hl 19 rfl) ?_
      refine lv_aload hx hb dL_law_244 (lv_at hl 16 rfl) ?_
      refine lv_aload hx hb dL_law_246 (lv_at hl 11 rfl) ?_
      refine k_iA (k_SA (As := [.ref (g + 1), .ref (g + 4), .ref (g + 9)]) (rest := [.int (handle (sE M) (free (sE M)))]) ⟨hx, hb, hml, hown, hts⟩ hev hS hAS (c_L_make l hL hT iR (k := free (sE M)) rfl hf10) (va_cwS 3 hts gL_law_L_make rfl rfl rfl (by decide +kernel) ⟨Nat.le_of_ble_eq_true rfl, Nat.le_of_ble_eq_true rfl⟩) rfl hl.1 (Nat.le_of_ble_eq_true rfl) dL_law_248 (by show _ ≤ (704995 : Nat); omega) (by show _ ≤ (6986640 : Nat); omega)) hS hAS (fun rq3_ H3 locs3 hP hz3 hk3 hS => ?_)
      refine W.widen (k := 200 + 4400 * k + 6) (n := 5000 + 50000 * k + 123) (Nat.le_refl _) (Nat.le_refl _) ?_
      obtain ⟨er, Y5, hL, hT5, hj5, h95⟩ := hP
      have hPK := hPK.w hL hz3 hk3
      refine x_top (y := (nI (free (sE M)))) (er) ?_
      have hR8 : LRel Y5 (wER M (makesE (sE M) (free (sE M))) (rowAdd (sR M) 0 (free (sE M)))) := hR.er hoff hT5 (fun j h1 _ _ h4 h9 => hj5 j h1 h4 h9) h95
      refine lv_aload_n hx hb dL_law_251 rfl (lv_at hl 19 rfl) ?_
      refine k_iN (k_S (As := [.int (nI (free (sE M))), .ref (g + 1)]) (rest := [.int (handle (sE M) (free (sE M)))]) ⟨hx, hb, hml, hown, hts⟩ hev hS (c_L_handle l hL hT5.1 hf10) (va_cwS 2 hts gL_law_L_handle rfl rfl rfl (by decide +kernel) ⟨Nat.le_of_ble_eq_true rfl, Nat.le_of_ble_eq_true rfl⟩) rfl hl.1 (Nat.le_of_ble_eq_true rfl) dL_law_252 (by show _ ≤ (704995 : Nat); omega) (by show _ ≤ (6986640 : Nat); omega)) hS (fun rq4_ H4 locs4 hP hz4 hS => ?_)
      refine W.widen (k := 200 + 4400 * k + 6) (n := 5000 + 50000 * k + 123) (Nat.le_refl _) (Nat.le_refl _) ?_
      have hPK : PK D T dE b0 (fun q : Nat => s.heap.size ≤ q) g Y5 (wER M (makesE (sE M) (free (sE M))) (rowAdd (sR M) 0 (free (sE M)))) H4 := by rw [hP.1]; exact hPK
      have hL := hPK.sl
      refine x_top (y := (handle (sE M) (free (sE M)))) (hP.2) ?_
      refine lv_icmp_eq (tgt := 1955) hx hb dL_law_255 (by decide) (fun c255 => ?_) (fun c255 => ?_)
      · refine W.widen (k := 200 + 4400 * k + 300) (n := 5000 + 50000 * k + 5400) (by omega) (by omega) ?_
        exact hchk _ _ _ _ ls hPK hR8 hI8 hS (lv_sub hl [10, 11, 12, 13, 14, 15, 16, 17, 18, 19, 20, 21] rfl)
      · exact absurd rfl c255
    · refine lv_goto (tgt := 1986) hx hb dL_law_236 (by decide) ?_
      refine W.widen (k := 200 + 4400 * (k + 1)) (n := 5000 + 50000 * (k + 1)) (by omega) (by omega) ?_
      exact hnxt _ _ _ _ ls hPK hR (hI.mono (by omega) (by omega)) hS (lv_sub hl [10, 11, 12, 13, 14, 15, 16, 17, 18, 19, 20, 21] rfl)
  · have hon := bI_e1 c211
    refine lv_aload_n hx hb dL_law_214 rfl (lv_at hl 20 rfl) ?_
    refine lv_iconst (v := nI 0) hx hb dL_law_215 (by decide) ?_
    refine lv_iconst (v := nI 0) hx hb dL_law_216 (by decide) ?_
    refine lv_iconst (v := nI 0) hx hb dL_law_217 (by decide) ?_
    refine k_iN (k_SW (As := [.ref b0, .int (nI 0), .int (nI 0), .int (nI 0)]) (rest := []) ⟨hx, hb, hml, hown, hts⟩ hev hS (r_L0 l hst hPK hI (nI 0) (nI 0) (w := 3) (by rw [mak_1 hon]; show ¬ (1 : Nat) = 0; decide) (by rw [mak_1 hon]; rfl)) (vx_cwSW 4 hts gL_law_L_refused rfl rfl rfl (by decide +kernel) ⟨Nat.le_of_ble_eq_true rfl, Nat.le_of_ble_eq_true rfl⟩) rfl hl.1 (Nat.le_of_ble_eq_true rfl) dL_law_218 (by show _ ≤ (704995 : Nat); omega) (by show _ ≤ (6986640 : Nat); omega)) hS (fun rq5_ H5 locs5 hP hz5 hS => ?_)
    have er := hP.1
    have hPK := hP.2
    have hL := hPK.sl
    refine x_top (y := (nI 3)) (er) ?_
    refine lv_iconst (v := nI 3) hx hb dL_law_221 (by decide) ?_
    refine y_icmp_eq hx hb (by decide) (by decide) (tgt := 1986) dL_law_222 (by decide) (fun c222 => ?_) (fun c222 => ?_)
    · refine W.widen (k := 200 + 4400 * (k + 1)) (n := 5000 + 50000 * (k + 1)) (by omega) (by omega) ?_
      exact hnxt _ _ _ _ ls hPK hR (hI.mono (by omega) (by omega)) hS (lv_sub hl [10, 11, 12, 13, 14, 15, 16, 17, 18, 19, 20, 21] rfl)
    · exact absurd c222 (by decide)
set_option maxHeartbeats 4000000 in
set_option maxRecDepth 100000 in
theorem law_add {p : Program} {l : Launch} {e : Env} {s : State} {m : MethodId} {below : List Frame} {meth : Method} {c : Code} {Q : State → Prop} {b : Nat} {D : va_G} {T : Nat → ClassId} {dE mi b0 g : Nat} (hst : l.stackTraces = false) (hx : p.tables.exec = Jvm.exec) (hb : c.code = cL_law) (hml : c.maxLocals = 26) (hown : s.vm.findClass RL = some m.cls) (hts : ∀ w ∈ wsL_law, w.before #[Value.ref b] s = true) (hev : EV D T dE mi (fun q : Nat => s.heap.size ≤ q) s) {k : Nat} (hk : k < 70) {H : Heap} {locs : List Loc} {M : mSt} {Y : Nat → Nat → Int32} (hPK : PK D T dE b0 (fun q : Nat => s.heap.size ≤ q) g Y M H) (hR : LRel Y M) (hI : Inv (800 * k) M) (hS : va_S (fun q : Nat => s.heap.size ≤ q) s.heap H locs) {kx ox px kd9 : Nat} {x z vx : Int32} {hv : Bool} (hkx : kx < 10) (hox : ox < 10) (hpx : px < 6) (hhv : mAl (sE M) kx = true → hv = bitS (mKd (sE M) kx) px) {ls : Array Slot} (hl : lv_has ls 26 [(21, .int (bI hv)), (20, .int (bI (mAl (sE M) kx))), (19, .int vx), (18, .int (nI px)), (17, .int (handle (sE M) kx)), (16, .int (nI ox)), (15, .int (nI kx)), (14, .int (nI kd9)), (13, .int z), (12, .int x), (11, .int (nI k)), (10, .ref (g + 9)), (9, .ref (g + 8)), (8, .ref (g + 7)), (7, .ref (g + 6)), (6, .ref (g + 5)), (5, .ref (g + 4)), (4, .ref (g + 3)), (3, .ref (g + 2)), (2, .ref (g + 1)), (1, .ref b0), (0, .ref b)])
    (hchk : ∀ (H1 : Heap) (locs1 : List Loc) (M1 : mSt) (Y1 : Nat → Nat → Int32) (ls1 : Array Slot), PK D T dE b0 (fun q : Nat => s.heap.size ≤ q) g Y1 M1 H1 → LRel Y1 M1 → Inv (800 * (k + 1)) M1 → va_S (fun q : Nat => s.heap.size ≤ q) s.heap H1 locs1 → lv_has ls1 26 [(11, .int (nI k)), (10, .ref (g + 9)), (9, .ref (g + 8)), (8, .ref (g + 7)), (7, .ref (g + 6)), (6, .ref (g + 5)), (5, .ref (g + 4)), (4, .ref (g + 3)), (3, .ref (g + 2)), (2, .ref (g + 1)), (1, .ref b0), (0, .ref b)] → W p l e room_1 s m #[Value.ref b] below meth c H1 locs1 (200 + 4400 * k + 300) (5000 + 50000 * k + 5400) Q (F0 m 1955 ls1 [])) (hnxt : ∀ (H1 : Heap) (locs1 : List Loc) (M1 : mSt) (Y1 : Nat → Nat → Int32) (ls1 : Array Slot), PK D T dE b0 (fun q : Nat => s.heap.size ≤ q) g Y1 M1 H1 → LRel Y1 M1 → Inv (800 * (k + 1)) M1 → va_S (fun q : Nat => s.heap.size ≤ q) s.heap H1 locs1 → lv_has ls1 26 [(11, .int (nI k)), (10, .ref (g + 9)), (9, .ref (g + 8)), (8, .ref (g + 7)), (7, .ref (g + 6)), (6, .ref (g + 5)), (5, .ref (g + 4)), (4, .ref (g + 3)), (3, .ref (g + 2)), (2, .ref (g + 1)), (1, .ref b0), (0, .ref b)] → W p l e room_1 s m #[Value.ref b] below meth c H1 locs1 (200 + 4400 * (k + 1)) (5000 + 50000 * (k + 1)) Q (F0 m 1986 ls1 [])) (hrtn : ∀ (H1 : Heap) (locs1 : List Loc) (ls1 : Array Slot), va_S (fun q : Nat => s.heap.size ≤ q) s.heap H1 locs1 → W p l e room_1 s m #[Value.ref b] below meth c H1 locs1 (200 + 4400 * (k + 1)) (5000 + 50000 * (k + 1)) Q (F0 m 1848 ls1 [.int (nI 1)])) : W p l e room_1 s m #[Value.ref b] below meth c H locs (200 + 4400 * k) (5000 + 50000 * k) Q (F0 m 267 ls []) := by
  have hK := hev.1
  have hL := hPK.sl
  have hAS := hPK.as
  have hh := hI.had
  have iE := hI.1
  have iR := hI.2.1
  have hT := hR.1
  have h10 := hT.1.2.2.2.2.1
  rcases Bool.eq_false_or_eq_true (mAl (sE M) kx) with hal | hal
  · have hl : lv_has ls 26 [(21, .int (bI hv)), (20, .int (bI (mAl (sE M) kx))), (19, .int vx), (18, .int (nI px)), (17, .int (handle (sE M) kx)), (16, .int (nI ox)), (15, .int (nI kx)), (14, .int (nI kd9)), (13, .int z), (12, .int x), (11, .int (nI k)), (10, .ref (g + 9)), (9, .ref (g + 8)), (8, .ref (g + 7)), (7, .ref (g + 6)), (6, .ref (g + 5)), (5, .ref (g + 4)), (4, .ref (g + 3)), (3, .ref (g + 2)), (2, .ref (g + 1)), (1, .ref b0), (0, .ref b)] := hl
    have hl : lv_has ls 26 [(21, .int (bI hv)), (20, .int (nI 1)), (19, .int vx), (18, .int (nI px)), (17, .int (handle (sE M) kx)), (16, .int (nI ox)), (15, .int (nI kx)), (14, .int (nI kd9)), (13, .int z), (12, .int x), (11, .int (nI k)), (10, .ref (g + 9)), (9, .ref (g + 8)), (8, .ref (g + 7)), (7, .ref (g + 6)), (6, .ref (g + 5)), (5, .ref (g + 4)), (4, .ref (g + 3)), (3, .ref (g + 2)), (2, .ref (g + 1)), (1, .ref b0), (0, .ref b)] := by
      have e9 : (bI (mAl (sE M) kx)) = (nI 1) := by rw [hal]; rfl
      rw [← e9]; exact hl
    have hlk := look_h (show kx < 32 by omega) hal hh
    have hk64 := iE.1 kx
    refine lv_iload hx hb dL_law_267 (lv_at hl 1 rfl) ?_
    refine y_if_ne hx hb (by decide) (tgt := 276) dL_law_269 (by decide) (fun c269 => ?_) (fun c269 => ?_)
    · refine lv_iload hx hb dL_law_276 (lv_at hl 0 rfl) ?_
      refine y_bif_ne hx hb (tgt := 289) dL_law_278 (by decide) (fun c278 => ?_) (fun c278 => ?_)
      · have hb9 := (hhv hal).symm.trans c278
        refine lv_iconst (v := nI 3) hx hb dL_law_289 (by decide) ?_
        refine lv_goto (tgt := 294) hx hb dL_law_290 (by decide) ?_
        refine lv_istore (lv' := [(22, .int (nI 3)), (21, .int (bI hv)), (20, .int (nI 1)), (19, .int vx), (18, .int (nI px)), (17, .int (handle (sE M) kx)), (16, .int (nI ox)), (15, .int (nI kx)), (14, .int (nI kd9)), (13, .int z), (12, .int x), (11, .int (nI k)), (10, .ref (g + 9)), (9, .ref (g + 8)), (8, .ref (g + 7)), (7, .ref (g + 6)), (6, .ref (g + 5)), (5, .ref (g + 4)), (4, .ref (g + 3)), (3, .ref (g + 2)), (2, .ref (g + 1)), (1, .ref b0), (0, .ref b)]) hx hb dL_law_294 hl (by decide) rfl (fun ls hl => ?_)
        refine lv_iload hx hb dL_law_296 (lv_at hl 0 rfl) ?_
        refine y_if_le hx hb (by decide) (tgt := 317) dL_law_298 (by decide) (fun c298 => ?_) (fun c298 => ?_)
        · exact absurd c298 (by decide)
        · refine lv_aload_n hx hb dL_law_301 rfl (lv_at hl 21 rfl) ?_
          refine lv_iconst (v := nI 3) hx hb dL_law_302 (by decide) ?_
          refine lv_iload hx hb dL_law_303 (lv_at hl 5 rfl) ?_
          refine lv_iload hx hb dL_law_305 (lv_at hl 4 rfl) ?_
          refine k_iN (k_SW (As := [.ref b0, .int (nI 3), .int (handle (sE M) kx), .int (nI px)]) (rest := []) ⟨hx, hb, hml, hown, hts⟩ hev hS (r_L3 l hst hPK hI (handle (sE M) kx) (nI px) (w := 3) (by rw [ad_3 hlk hpx (Or.inl hb9)]; show ¬ (3 : Nat) = 0; decide) (by rw [ad_3 hlk hpx (Or.inl hb9)]; rfl)) (vx_cwSW 4 hts gL_law_L_refused rfl rfl rfl (by decide +kernel) ⟨Nat.le_of_ble_eq_true rfl, Nat.le_of_ble_eq_true rfl⟩) rfl hl.1 (Nat.le_of_ble_eq_true rfl) dL_law_307 (by show _ ≤ (704995 : Nat); omega) (by show _ ≤ (6986640 : Nat); omega)) hS (fun rq1_ H1 locs1 hP hz1 hS => ?_)
          have er := hP.1
          have hPK := hP.2
          have hL := hPK.sl
          refine x_top (y := (nI 3)) (er) ?_
          refine lv_iload hx hb dL_law_310 (lv_at hl 0 rfl) ?_
          refine y_icmp_eq hx hb (by decide) (by decide) (tgt := 1986) dL_law_312 (by decide) (fun c312 => ?_) (fun c312 => ?_)
          · refine W.widen (k := 200 + 4400 * (k + 1)) (n := 5000 + 50000 * (k + 1)) (by omega) (by omega) ?_
            exact hnxt _ _ _ _ ls hPK hR (hI.mono (by omega) (by omega)) hS (lv_sub hl [11, 12, 13, 14, 15, 16, 17, 18, 19, 20, 21, 22] rfl)
          · exact absurd c312 (by decide)
      · have hb9 := (hhv hal).symm.trans c278
        refine lv_aload hx hb dL_law_281 (lv_at hl 11 rfl) ?_
        refine lv_iconst (v := nI 4) hx hb dL_law_283 (by decide) ?_
        refine n_ld9 (i := 4) hx hb hK hL (by omega) dL_law_284 ?_
        refine x_top (y := (bI (wOn (sW M)))) (hR.2.2.2.2.1) ?_
        refine lv_iconst (v := nI 1) hx hb dL_law_285 (by decide) ?_
        refine lv_icmp_ne (tgt := 293) hx hb dL_law_286 (by decide) (fun c286 => ?_) (fun c286 => ?_)
        · have hoff := bI_n1 c286
          refine lv_iconst (v := nI 0) hx hb dL_law_293 (by decide) ?_
          refine lv_istore (lv' := [(22, .int (nI 0)), (21, .int (bI hv)), (20, .int (nI 1)), (19, .int vx), (18, .int (nI px)), (17, .int (handle (sE M) kx)), (16, .int (nI ox)), (15, .int (nI kx)), (14, .int (nI kd9)), (13, .int z), (12, .int x), (11, .int (nI k)), (10, .ref (g + 9)), (9, .ref (g + 8)), (8, .ref (g + 7)), (7, .ref (g + 6)), (6, .ref (g + 5)), (5, .ref (g + 4)), (4, .ref (g + 3)), (3, .ref (g + 2)), (2, .ref (g + 1)), (1, .ref b0), (0, .ref b)]) hx hb dL_law_294 hl (by decide) rfl (fun ls hl => ?_)
          refine lv_iload hx hb dL_law_296 (lv_at hl 0 rfl) ?_
          refine y_if_le hx hb (by decide) (tgt := 317) dL_law_298 (by decide) (fun c298 => ?_) (fun c298 => ?_)
          · refine lv_aload_n hx hb dL_law_317 rfl (lv_at hl 19 rfl) ?_
            refine lv_bipush (v := nI 6) hx hb dL_law_318 (by decide) ?_
            refine lv_iload hx hb dL_law_320 (lv_at hl 7 rfl) ?_
            refine y_imul hx hb dL_law_322 ?_
            refine lv_iload hx hb dL_law_323 (lv_at hl 4 rfl) ?_
            refine y_iadd hx hb dL_law_325 ?_
            refine lv_iload hx hb dL_law_326 (lv_at hl 3 rfl) ?_
            refine n_st2 (i := (6 * kx) + px) (v := vx) hx hb hK hS hL hAS (by omega) dL_law_328 (fun H2 locs2 hL hz2 hq2 hS => ?_)
            have hPK := hPK.w hL (Nat.le_of_eq hz2.symm) (fun q _ zz => hq2 q zz)
            obtain ⟨Y2, hPK, hL, hY2⟩ : ∃ Yn, PK D T dE b0 (fun q : Nat => s.heap.size ≤ q) g Yn M H2 ∧ SL T g Yn H2 ∧ Yn = up2 Y 2 (upd (Y 2) ((6 * kx) + px) vx) := ⟨_, hPK, hL, rfl⟩
            refine lv_aload hx hb dL_law_329 (lv_at hl 18 rfl) ?_
            refine lv_bipush (v := nI 6) hx hb dL_law_331 (by decide) ?_
            refine lv_iload hx hb dL_law_333 (lv_at hl 7 rfl) ?_
            refine y_imul hx hb dL_law_335 ?_
            refine lv_iload hx hb dL_law_336 (lv_at hl 4 rfl) ?_
            refine y_iadd hx hb dL_law_338 ?_
            refine lv_aload hx hb dL_law_339 (lv_at hl 12 rfl) ?_
            refine lv_iconst (v := nI 1) hx hb dL_law_341 (by decide) ?_
            refine n_ld9 (i := 1) hx hb hK hL (by omega) dL_law_342 ?_
            refine x_top (y := (sT M)) (by rw [hY2]; exact hR.2.2.2.1) ?_
            refine n_st3 (i := (6 * kx) + px) (v := (sT M)) hx hb hK hS hL hAS (by omega) dL_law_343 (fun H3 locs3 hL hz3 hq3 hS => ?_)
            have hPK := hPK.w hL (Nat.le_of_eq hz3.symm) (fun q _ zz => hq3 q zz)
            obtain ⟨Y3, hPK, hL, hY3⟩ : ∃ Yn, PK D T dE b0 (fun q : Nat => s.heap.size ≤ q) g Yn M H3 ∧ SL T g Yn H3 ∧ Yn = up2 Y2 3 (upd (Y2 3) ((6 * kx) + px) (sT M)) := ⟨_, hPK, hL, rfl⟩
            have hT6 : LTw Y3 (putE (sE M) kx px vx (sT M)) (sR M) := hT.put hkx hpx (by rw [hY3, hY2]; rfl) (by rw [hY3, hY2]; rfl) (by rw [hY3, hY2]; rfl) (by rw [hY3, hY2]; rfl) (by rw [hY3, hY2]; rfl)
            refine lv_iload hx hb dL_law_344 (lv_at hl 7 rfl) ?_
            refine lv_aload_n hx hb dL_law_346 rfl (lv_at hl 20 rfl) ?_
            refine lv_bipush (v := nI 6) hx hb dL_law_347 (by decide) ?_
            refine lv_iload hx hb dL_law_349 (lv_at hl 7 rfl) ?_
            refine y_imul hx hb dL_law_351 ?_
            refine lv_iconst (v := nI 2) hx hb dL_law_352 (by decide) ?_
            refine y_iadd hx hb dL_law_353 ?_
            refine n_ld1 (i := (6 * kx) + 2) hx hb hK hL (by omega) dL_law_354 ?_
            refine x_top (y := (nI (mKd (sE M) kx))) (hT6.1.2.2.1 kx hkx hal) ?_
            refine lv_iconst (v := nI 1) hx hb dL_law_355 (by decide) ?_
            refine lv_iload hx hb dL_law_356 (lv_at hl 4 rfl) ?_
            refine lv_ishl hx hb dL_law_358 ?_
            refine lv_ior hx hb dL_law_359 ?_
            refine x_top (y := (nI (setB (mKd (sE M) kx) px))) ((bit_set1 _ hk64 px hpx).1) ?_
            refine lv_aload_n hx hb dL_law_360 rfl (lv_at hl 20 rfl) ?_
            refine lv_aload hx hb dL_law_361 (lv_at hl 17 rfl) ?_
            refine lv_aload hx hb dL_law_363 (lv_at hl 12 rfl) ?_
            refine k_vA (k_SA (As := [.int (nI kx), .int (nI (setB (mKd (sE M) kx) px)), .ref (g + 1), .ref (g + 4), .ref (g + 9)]) (rest := []) ⟨hx, hb, hml, hown, hts⟩ hev hS hAS (c_L_change l hL hT6 (put_invR iR _ _ _ _) (k := kx) hal (bit_set1 _ hk64 px hpx).2) (va_cwS 5 hts gL_law_L_change rfl rfl rfl (by decide +kernel) ⟨Nat.le_of_ble_eq_true rfl, Nat.le_of_ble_eq_true rfl⟩) rfl hl.1 (Nat.le_of_ble_eq_true rfl) dL_law_365 (by show _ ≤ (704995 : Nat); omega) (by show _ ≤ (6986640 : Nat); omega)) hS hAS (fun H4 locs4 hP hz4 hk4 hS => ?_)
            refine W.widen (k := 200 + 4400 * k) (n := 5000 + 50000 * k) (Nat.le_refl _) (Nat.le_refl _) ?_
            obtain ⟨Y7, hL, hT7, hj7, h97⟩ := hP
            have hPK := hPK.w hL hz4 hk4
            refine lv_aload_n hx hb dL_law_368 rfl (lv_at hl 21 rfl) ?_
            refine lv_iload hx hb dL_law_369 (lv_at hl 5 rfl) ?_
            refine lv_iload hx hb dL_law_371 (lv_at hl 4 rfl) ?_
            refine lv_iload hx hb dL_law_373 (lv_at hl 3 rfl) ?_
            refine k_iN (k_V (As := [.int (handle (sE M) kx), .int (nI px), .int vx]) (rest := []) ⟨hx, hb, hml, hown, hts⟩ hev hS (w_add l hst hPK hI (handle (sE M) kx) (nI px) (vx) (by rw [ad_0 hlk hpx hb9 hoff])) (cwV 3 hts gL_law_X6_add rfl rfl rfl (by decide +kernel) ⟨Nat.le_of_ble_eq_true rfl, Nat.le_of_ble_eq_true rfl⟩) (pk_recv hK hPK) rfl hl.1 (Nat.le_of_ble_eq_true rfl) dL_law_375 (by show _ ≤ (704995 : Nat); omega) (by show _ ≤ (6986640 : Nat); omega)) hS (fun rq5_ H5 locs5 hP hz5 hS => ?_)
            rw [ad_0 hlk hpx hb9 hoff] at hP
            have er := hP.1
            have hPK := hP.2
            have hL := hPK.sl
            refine x_top (y := (nI (setB (mKd (sE M) kx) px))) (er) ?_
            have hI8 : Inv (800 * (k + 1)) (wER M (addsE (sE M) kx px vx (sT M)) (addsR (sE M) (sR M) kx px)) := by have := i_add hI (handle (sE M) kx) (nI px) vx; rw [ad_0 hlk hpx hb9 hoff] at this; exact this.mono (by omega) (by omega)
            have hR8 : LRel Y7 (wER M (addsE (sE M) kx px vx (sT M)) (addsR (sE M) (sR M) kx px)) := hR.er hoff hT7 (fun j h1 h2 h3 h4 h9 => (hj7 j h1 h4 h9).trans (by rw [hY3, hY2]; simp only [up2, if_neg h2, if_neg h3])) (fun i hi => (h97 i hi).trans (by rw [hY3, hY2]; rfl))
            refine lv_aload_n hx hb dL_law_378 rfl (lv_at hl 20 rfl) ?_
            refine lv_bipush (v := nI 6) hx hb dL_law_379 (by decide) ?_
            refine lv_iload hx hb dL_law_381 (lv_at hl 7 rfl) ?_
            refine y_imul hx hb dL_law_383 ?_
            refine lv_iconst (v := nI 2) hx hb dL_law_384 (by decide) ?_
            refine y_iadd hx hb dL_law_385 ?_
            refine n_ld1 (i := (6 * kx) + 2) hx hb hK hL (by omega) dL_law_386 ?_
            refine x_top (y := (nI (setB (mKd (sE M) kx) px))) ((hT7.1.2.2.1 kx hkx hal).trans (congrArg nI nu_s)) ?_
            have hs64 := (bit_set1 _ hk64 px hpx).2
            refine y_icmp_eq hx hb (by omega) (by omega) (tgt := 392) dL_law_387 (by decide) (fun c387 => ?_) (fun c387 => ?_)
            · refine lv_goto (tgt := 1955) hx hb dL_law_392 (by decide) ?_
              refine W.widen (k := 200 + 4400 * k + 300) (n := 5000 + 50000 * k + 5400) (by omega) (by omega) ?_
              exact hchk _ _ _ _ ls hPK hR8 hI8 hS (lv_sub hl [11, 12, 13, 14, 15, 16, 17, 18, 19, 20, 21, 22] rfl)
            · exact absurd rfl c387
          · exact absurd c298 (by decide)
        · have hon := bI_e1 c286
          refine lv_iconst (v := nI 3) hx hb dL_law_289 (by decide) ?_
          refine lv_goto (tgt := 294) hx hb dL_law_290 (by decide) ?_
          refine lv_istore (lv' := [(22, .int (nI 3)), (21, .int (bI hv)), (20, .int (nI 1)), (19, .int vx), (18, .int (nI px)), (17, .int (handle (sE M) kx)), (16, .int (nI ox)), (15, .int (nI kx)), (14, .int (nI kd9)), (13, .int z), (12, .int x), (11, .int (nI k)), (10, .ref (g + 9)), (9, .ref (g + 8)), (8, .ref (g + 7)), (7, .ref (g + 6)), (6, .ref (g + 5)), (5, .ref (g + 4)), (4, .ref (g + 3)), (3, .ref (g + 2)), (2, .ref (g + 1)), (1, .ref b0), (0, .ref b)]) hx hb dL_law_294 hl (by decide) rfl (fun ls hl => ?_)
          refine lv_iload hx hb dL_law_296 (lv_at hl 0 rfl) ?_
          refine y_if_le hx hb (by decide) (tgt := 317) dL_law_298 (by decide) (fun c298 => ?_) (fun c298 => ?_)
          · exact absurd c298 (by decide)
          · refine lv_aload_n hx hb dL_law_301 rfl (lv_at hl 21 rfl) ?_
            refine lv_iconst (v := nI 3) hx hb dL_law_302 (by decide) ?_
            refine lv_iload hx hb dL_law_303 (lv_at hl 5 rfl) ?_
            refine lv_iload hx hb dL_law_305 (lv_at hl 4 rfl) ?_
            refine k_iN (k_SW (As := [.ref b0, .int (nI 3), .int (handle (sE M) kx), .int (nI px)]) (rest := []) ⟨hx, hb, hml, hown, hts⟩ hev hS (r_L3 l hst hPK hI (handle (sE M) kx) (nI px) (w := 3) (by rw [ad_3 hlk hpx (Or.inr hon)]; show ¬ (3 : Nat) = 0; decide) (by rw [ad_3 hlk hpx (Or.inr hon)]; rfl)) (vx_cwSW 4 hts gL_law_L_refused rfl rfl rfl (by decide +kernel) ⟨Nat.le_of_ble_eq_true rfl, Nat.le_of_ble_eq_true rfl⟩) rfl hl.1 (Nat.le_of_ble_eq_true rfl) dL_law_307 (by show _ ≤ (704995 : Nat); omega) (by show _ ≤ (6986640 : Nat); omega)) hS (fun rq6_ H6 locs6 hP hz6 hS => ?_)
            have er := hP.1
            have hPK := hP.2
            have hL := hPK.sl
            refine x_top (y := (nI 3)) (er) ?_
            refine lv_iload hx hb dL_law_310 (lv_at hl 0 rfl) ?_
            refine y_icmp_eq hx hb (by decide) (by decide) (tgt := 1986) dL_law_312 (by decide) (fun c312 => ?_) (fun c312 => ?_)
            · refine W.widen (k := 200 + 4400 * (k + 1)) (n := 5000 + 50000 * (k + 1)) (by omega) (by omega) ?_
              exact hnxt _ _ _ _ ls hPK hR (hI.mono (by omega) (by omega)) hS (lv_sub hl [11, 12, 13, 14, 15, 16, 17, 18, 19, 20, 21, 22] rfl)
            · exact absurd c312 (by decide)
    · exact absurd c269 (by decide)
  · have hl : lv_has ls 26 [(21, .int (bI hv)), (20, .int (nI 0)), (19, .int vx), (18, .int (nI px)), (17, .int (handle (sE M) kx)), (16, .int (nI ox)), (15, .int (nI kx)), (14, .int (nI kd9)), (13, .int z), (12, .int x), (11, .int (nI k)), (10, .ref (g + 9)), (9, .ref (g + 8)), (8, .ref (g + 7)), (7, .ref (g + 6)), (6, .ref (g + 5)), (5, .ref (g + 4)), (4, .ref (g + 3)), (3, .ref (g + 2)), (2, .ref (g + 1)), (1, .ref b0), (0, .ref b)] := by
      have e9 : (bI (mAl (sE M) kx)) = (nI 0) := by rw [hal]; rfl
      rw [← e9]; exact hl
    have hlk := look_d (show kx < 32 by omega) hal hh
    refine lv_iload hx hb dL_law_267 (lv_at hl 1 rfl) ?_
    refine y_if_ne hx hb (by decide) (tgt := 276) dL_law_269 (by decide) (fun c269 => ?_) (fun c269 => ?_)
    · exact absurd c269 (by decide)
    · refine lv_iconst (v := nI 1) hx hb dL_law_272 (by decide) ?_
      refine lv_goto (tgt := 294) hx hb dL_law_273 (by decide) ?_
      refine lv_istore (lv' := [(22, .int (nI 1)), (21, .int (bI hv)), (20, .int (nI 0)), (19, .int vx), (18, .int (nI px)), (17, .int (handle (sE M) kx)), (16, .int (nI ox)), (15, .int (nI kx)), (14, .int (nI kd9)), (13, .int z), (12, .int x), (11, .int (nI k)), (10, .ref (g + 9)), (9, .ref (g + 8)), (8, .ref (g + 7)), (7, .ref (g + 6)), (6, .ref (g + 5)), (5, .ref (g + 4)), (4, .ref (g + 3)), (3, .ref (g + 2)), (2, .ref (g + 1)), (1, .ref b0), (0, .ref b)]) hx hb dL_law_294 hl (by decide) rfl (fun ls hl => ?_)
      refine lv_iload hx hb dL_law_296 (lv_at hl 0 rfl) ?_
      refine y_if_le hx hb (by decide) (tgt := 317) dL_law_298 (by decide) (fun c298 => ?_) (fun c298 => ?_)
      · exact absurd c298 (by decide)
      · refine lv_aload_n hx hb dL_law_301 rfl (lv_at hl 21 rfl) ?_
        refine lv_iconst (v := nI 3) hx hb dL_law_302 (by decide) ?_
        refine lv_iload hx hb dL_law_303 (lv_at hl 5 rfl) ?_
        refine lv_iload hx hb dL_law_305 (lv_at hl 4 rfl) ?_
        refine k_iN (k_SW (As := [.ref b0, .int (nI 3), .int (handle (sE M) kx), .int (nI px)]) (rest := []) ⟨hx, hb, hml, hown, hts⟩ hev hS (r_L3 l hst hPK hI (handle (sE M) kx) (nI px) (w := 1) (by rw [ad_1 hlk]; show ¬ (1 : Nat) = 0; decide) (by rw [ad_1 hlk]; rfl)) (vx_cwSW 4 hts gL_law_L_refused rfl rfl rfl (by decide +kernel) ⟨Nat.le_of_ble_eq_true rfl, Nat.le_of_ble_eq_true rfl⟩) rfl hl.1 (Nat.le_of_ble_eq_true rfl) dL_law_307 (by show _ ≤ (704995 : Nat); omega) (by show _ ≤ (6986640 : Nat); omega)) hS (fun rq7_ H7 locs7 hP hz7 hS => ?_)
        have er := hP.1
        have hPK := hP.2
        have hL := hPK.sl
        refine x_top (y := (nI 1)) (er) ?_
        refine lv_iload hx hb dL_law_310 (lv_at hl 0 rfl) ?_
        refine y_icmp_eq hx hb (by decide) (by decide) (tgt := 1986) dL_law_312 (by decide) (fun c312 => ?_) (fun c312 => ?_)
        · refine W.widen (k := 200 + 4400 * (k + 1)) (n := 5000 + 50000 * (k + 1)) (by omega) (by omega) ?_
          exact hnxt _ _ _ _ ls hPK hR (hI.mono (by omega) (by omega)) hS (lv_sub hl [11, 12, 13, 14, 15, 16, 17, 18, 19, 20, 21, 22] rfl)
        · exact absurd c312 (by decide)
set_option maxHeartbeats 4000000 in
set_option maxRecDepth 100000 in
theorem law_take {p : Program} {l : Launch} {e : Env} {s : State} {m : MethodId} {below : List Frame} {meth : Method} {c : Code} {Q : State → Prop} {b : Nat} {D : va_G} {T : Nat → ClassId} {dE mi b0 g : Nat} (hst : l.stackTraces = false) (hx : p.tables.exec = Jvm.exec) (hb : c.code = cL_law) (hml : c.maxLocals = 26) (hown : s.vm.findClass RL = some m.cls) (hts : ∀ w ∈ wsL_law, w.before #[Value.ref b] s = true) (hev : EV D T dE mi (fun q : Nat => s.heap.size ≤ q) s) {k : Nat} (hk : k < 70) {H : Heap} {locs : List Loc} {M : mSt} {Y : Nat → Nat → Int32} (hPK : PK D T dE b0 (fun q : Nat => s.heap.size ≤ q) g Y M H) (hR : LRel Y M) (hI : Inv (800 * k) M) (hS : va_S (fun q : Nat => s.heap.size ≤ q) s.heap H locs) {kx ox px kd9 : Nat} {x z vx : Int32} {hv : Bool} (hkx : kx < 10) (hox : ox < 10) (hpx : px < 6) (hhv : mAl (sE M) kx = true → hv = bitS (mKd (sE M) kx) px) {ls : Array Slot} (hl : lv_has ls 26 [(21, .int (bI hv)), (20, .int (bI (mAl (sE M) kx))), (19, .int vx), (18, .int (nI px)), (17, .int (handle (sE M) kx)), (16, .int (nI ox)), (15, .int (nI kx)), (14, .int (nI kd9)), (13, .int z), (12, .int x), (11, .int (nI k)), (10, .ref (g + 9)), (9, .ref (g + 8)), (8, .ref (g + 7)), (7, .ref (g + 6)), (6, .ref (g + 5)), (5, .ref (g + 4)), (4, .ref (g + 3)), (3, .ref (g + 2)), (2, .ref (g + 1)), (1, .ref b0), (0, .ref b)])
    (hchk : ∀ (H1 : Heap) (locs1 : List Loc) (M1 : mSt) (Y1 : Nat → Nat → Int32) (ls1 : Array Slot), PK D T dE b0 (fun q : Nat => s.heap.size ≤ q) g Y1 M1 H1 → LRel Y1 M1 → Inv (800 * (k + 1)) M1 → va_S (fun q : Nat => s.heap.size ≤ q) s.heap H1 locs1 → lv_has ls1 26 [(11, .int (nI k)), (10, .ref (g + 9)), (9, .ref (g + 8)), (8, .ref (g + 7)), (7, .ref (g + 6)), (6, .ref (g + 5)), (5, .ref (g + 4)), (4, .ref (g + 3)), (3, .ref (g + 2)), (2, .ref (g + 1)), (1, .ref b0), (0, .ref b)] → W p l e room_1 s m #[Value.ref b] below meth c H1 locs1 (200 + 4400 * k + 300) (5000 + 50000 * k + 5400) Q (F0 m 1955 ls1 [])) (hnxt : ∀ (H1 : Heap) (locs1 : List Loc) (M1 : mSt) (Y1 : Nat → Nat → Int32) (ls1 : Array Slot), PK D T dE b0 (fun q : Nat => s.heap.size ≤ q) g Y1 M1 H1 → LRel Y1 M1 → Inv (800 * (k + 1)) M1 → va_S (fun q : Nat => s.heap.size ≤ q) s.heap H1 locs1 → lv_has ls1 26 [(11, .int (nI k)), (10, .ref (g + 9)), (9, .ref (g + 8)), (8, .ref (g + 7)), (7, .ref (g + 6)), (6, .ref (g + 5)), (5, .ref (g + 4)), (4, .ref (g + 3)), (3, .ref (g + 2)), (2, .ref (g + 1)), (1, .ref b0), (0, .ref b)] → W p l e room_1 s m #[Value.ref b] below meth c H1 locs1 (200 + 4400 * (k + 1)) (5000 + 50000 * (k + 1)) Q (F0 m 1986 ls1 [])) (hrtn : ∀ (H1 : Heap) (locs1 : List Loc) (ls1 : Array Slot), va_S (fun q : Nat => s.heap.size ≤ q) s.heap H1 locs1 → W p l e room_1 s m #[Value.ref b] below meth c H1 locs1 (200 + 4400 * (k + 1)) (5000 + 50000 * (k + 1)) Q (F0 m 1848 ls1 [.int (nI 1)])) : W p l e room_1 s m #[Value.ref b] below meth c H locs (200 + 4400 * k) (5000 + 50000 * k) Q (F0 m 402 ls []) := by
  have hK := hev.1
  have hL := hPK.sl
  have hAS := hPK.as
  have hh := hI.had
  have iE := hI.1
  have iR := hI.2.1
  have hT := hR.1
  have h10 := hT.1.2.2.2.2.1
  rcases Bool.eq_false_or_eq_true (mAl (sE M) kx) with hal | hal
  · have hl : lv_has ls 26 [(21, .int (bI hv)), (20, .int (bI (mAl (sE M) kx))), (19, .int vx), (18, .int (nI px)), (17, .int (handle (sE M) kx)), (16, .int (nI ox)), (15, .int (nI kx)), (14, .int (nI kd9)), (13, .int z), (12, .int x), (11, .int (nI k)), (10, .ref (g + 9)), (9, .ref (g + 8)), (8, .ref (g + 7)), (7, .ref (g + 6)), (6, .ref (g + 5)), (5, .ref (g + 4)), (4, .ref (g + 3)), (3, .ref (g + 2)), (2, .ref (g + 1)), (1, .ref b0), (0, .ref b)] := hl
    have hl : lv_has ls 26 [(21, .int (bI hv)), (20, .int (nI 1)), (19, .int vx), (18, .int (nI px)), (17, .int (handle (sE M) kx)), (16, .int (nI ox)), (15, .int (nI kx)), (14, .int (nI kd9)), (13, .int z), (12, .int x), (11, .int (nI k)), (10, .ref (g + 9)), (9, .ref (g + 8)), (8, .ref (g + 7)), (7, .ref (g + 6)), (6, .ref (g + 5)), (5, .ref (g + 4)), (4, .ref (g + 3)), (3, .ref (g + 2)), (2, .ref (g + 1)), (1, .ref b0), (0, .ref b)] := by
      have e9 : (bI (mAl (sE M) kx)) = (nI 1) := by rw [hal]; rfl
      rw [← e9]; exact hl
    have hlk := look_h (show kx < 32 by omega) hal hh
    have hk64 := iE.1 kx
    refine lv_iload hx hb dL_law_402 (lv_at hl 1 rfl) ?_
    refine y_if_ne hx hb (by decide) (tgt := 411) dL_law_404 (by decide) (fun c404 => ?_) (fun c404 => ?_)
    · refine lv_iload hx hb dL_law_411 (lv_at hl 0 rfl) ?_
      refine y_bif_eq hx hb (tgt := 424) dL_law_413 (by decide) (fun c413 => ?_) (fun c413 => ?_)
      · have hb9 := (hhv hal).symm.trans c413
        refine lv_iconst (v := nI 3) hx hb dL_law_424 (by decide) ?_
        refine lv_goto (tgt := 429) hx hb dL_law_425 (by decide) ?_
        refine lv_istore (lv' := [(22, .int (nI 3)), (21, .int (bI hv)), (20, .int (nI 1)), (19, .int vx), (18, .int (nI px)), (17, .int (handle (sE M) kx)), (16, .int (nI ox)), (15, .int (nI kx)), (14, .int (nI kd9)), (13, .int z), (12, .int x), (11, .int (nI k)), (10, .ref (g + 9)), (9, .ref (g + 8)), (8, .ref (g + 7)), (7, .ref (g + 6)), (6, .ref (g + 5)), (5, .ref (g + 4)), (4, .ref (g + 3)), (3, .ref (g + 2)), (2, .ref (g + 1)), (1, .ref b0), (0, .ref b)]) hx hb dL_law_429 hl (by decide) rfl (fun ls hl => ?_)
        refine lv_iload hx hb dL_law_431 (lv_at hl 0 rfl) ?_
        refine y_if_le hx hb (by decide) (tgt := 452) dL_law_433 (by decide) (fun c433 => ?_) (fun c433 => ?_)
        · exact absurd c433 (by decide)
        · refine lv_aload_n hx hb dL_law_436 rfl (lv_at hl 21 rfl) ?_
          refine lv_iconst (v := nI 4) hx hb dL_law_437 (by decide) ?_
          refine lv_iload hx hb dL_law_438 (lv_at hl 5 rfl) ?_
          refine lv_iload hx hb dL_law_440 (lv_at hl 4 rfl) ?_
          refine k_iN (k_SW (As := [.ref b0, .int (nI 4), .int (handle (sE M) kx), .int (nI px)]) (rest := []) ⟨hx, hb, hml, hown, hts⟩ hev hS (r_L4 l hst hPK hI (handle (sE M) kx) (nI px) (w := 3) (by rw [tk_e (by rw [ask_h hlk hpx hb9]; decide), ask_h hlk hpx hb9]; show ¬ (3 : Nat) = 0; decide) (by rw [tk_e (by rw [ask_h hlk hpx hb9]; decide), ask_h hlk hpx hb9]; rfl)) (vx_cwSW 4 hts gL_law_L_refused rfl rfl rfl (by decide +kernel) ⟨Nat.le_of_ble_eq_true rfl, Nat.le_of_ble_eq_true rfl⟩) rfl hl.1 (Nat.le_of_ble_eq_true rfl) dL_law_442 (by show _ ≤ (704995 : Nat); omega) (by show _ ≤ (6986640 : Nat); omega)) hS (fun rq1_ H1 locs1 hP hz1 hS => ?_)
          have er := hP.1
          have hPK := hP.2
          have hL := hPK.sl
          refine x_top (y := (nI 3)) (er) ?_
          refine lv_iload hx hb dL_law_445 (lv_at hl 0 rfl) ?_
          refine y_icmp_eq hx hb (by decide) (by decide) (tgt := 1986) dL_law_447 (by decide) (fun c447 => ?_) (fun c447 => ?_)
          · refine W.widen (k := 200 + 4400 * (k + 1)) (n := 5000 + 50000 * (k + 1)) (by omega) (by omega) ?_
            exact hnxt _ _ _ _ ls hPK hR (hI.mono (by omega) (by omega)) hS (lv_sub hl [11, 12, 13, 14, 15, 16, 17, 18, 19, 20, 21, 22] rfl)
          · exact absurd c447 (by decide)
      · have hb9 := (hhv hal).symm.trans c413
        refine lv_aload hx hb dL_law_416 (lv_at hl 11 rfl) ?_
        refine lv_iconst (v := nI 4) hx hb dL_law_418 (by decide) ?_
        refine n_ld9 (i := 4) hx hb hK hL (by omega) dL_law_419 ?_
        refine x_top (y := (bI (wOn (sW M)))) (hR.2.2.2.2.1) ?_
        refine lv_iconst (v := nI 1) hx hb dL_law_420 (by decide) ?_
        refine lv_icmp_ne (tgt := 428) hx hb dL_law_421 (by decide) (fun c421 => ?_) (fun c421 => ?_)
        · have hoff := bI_n1 c421
          refine lv_iconst (v := nI 0) hx hb dL_law_428 (by decide) ?_
          refine lv_istore (lv' := [(22, .int (nI 0)), (21, .int (bI hv)), (20, .int (nI 1)), (19, .int vx), (18, .int (nI px)), (17, .int (handle (sE M) kx)), (16, .int (nI ox)), (15, .int (nI kx)), (14, .int (nI kd9)), (13, .int z), (12, .int x), (11, .int (nI k)), (10, .ref (g + 9)), (9, .ref (g + 8)), (8, .ref (g + 7)), (7, .ref (g + 6)), (6, .ref (g + 5)), (5, .ref (g + 4)), (4, .ref (g + 3)), (3, .ref (g + 2)), (2, .ref (g + 1)), (1, .ref b0), (0, .ref b)]) hx hb dL_law_429 hl (by decide) rfl (fun ls hl => ?_)
          refine lv_iload hx hb dL_law_431 (lv_at hl 0 rfl) ?_
          refine y_if_le hx hb (by decide) (tgt := 452) dL_law_433 (by decide) (fun c433 => ?_) (fun c433 => ?_)
          · refine lv_iload hx hb dL_law_452 (lv_at hl 7 rfl) ?_
            refine lv_aload_n hx hb dL_law_454 rfl (lv_at hl 20 rfl) ?_
            refine lv_bipush (v := nI 6) hx hb dL_law_455 (by decide) ?_
            refine lv_iload hx hb dL_law_457 (lv_at hl 7 rfl) ?_
            refine y_imul hx hb dL_law_459 ?_
            refine lv_iconst (v := nI 2) hx hb dL_law_460 (by decide) ?_
            refine y_iadd hx hb dL_law_461 ?_
            refine n_ld1 (i := (6 * kx) + 2) hx hb hK hL (by omega) dL_law_462 ?_
            refine x_top (y := (nI (mKd (sE M) kx))) (hT.1.2.2.1 kx hkx hal) ?_
            refine lv_iconst (v := nI 1) hx hb dL_law_463 (by decide) ?_
            refine lv_iload hx hb dL_law_464 (lv_at hl 4 rfl) ?_
            refine lv_ishl hx hb dL_law_466 ?_
            refine lv_iconst (v := -1) hx hb dL_law_467 (by decide) ?_
            refine lv_ixor hx hb dL_law_468 ?_
            refine lv_iand hx hb dL_law_469 ?_
            refine x_top (y := (nI (clrB (mKd (sE M) kx) px))) ((bit_clr1 _ hk64 px hpx).1) ?_
            refine lv_aload_n hx hb dL_law_470 rfl (lv_at hl 20 rfl) ?_
            refine lv_aload hx hb dL_law_471 (lv_at hl 17 rfl) ?_
            refine lv_aload hx hb dL_law_473 (lv_at hl 12 rfl) ?_
            refine k_vA (k_SA (As := [.int (nI kx), .int (nI (clrB (mKd (sE M) kx) px)), .ref (g + 1), .ref (g + 4), .ref (g + 9)]) (rest := []) ⟨hx, hb, hml, hown, hts⟩ hev hS hAS (c_L_change l hL hT iR (k := kx) hal (bit_clr1 _ hk64 px hpx).2) (va_cwS 5 hts gL_law_L_change rfl rfl rfl (by decide +kernel) ⟨Nat.le_of_ble_eq_true rfl, Nat.le_of_ble_eq_true rfl⟩) rfl hl.1 (Nat.le_of_ble_eq_true rfl) dL_law_475 (by show _ ≤ (704995 : Nat); omega) (by show _ ≤ (6986640 : Nat); omega)) hS hAS (fun H2 locs2 hP hz2 hk2 hS => ?_)
            refine W.widen (k := 200 + 4400 * k) (n := 5000 + 50000 * k) (Nat.le_refl _) (Nat.le_refl _) ?_
            obtain ⟨Y7, hL, hT7, hj7, h97⟩ := hP
            have hPK := hPK.w hL hz2 hk2
            refine lv_aload_n hx hb dL_law_478 rfl (lv_at hl 21 rfl) ?_
            refine lv_iload hx hb dL_law_479 (lv_at hl 5 rfl) ?_
            refine lv_iload hx hb dL_law_481 (lv_at hl 4 rfl) ?_
            refine k_iN (k_V (As := [.int (handle (sE M) kx), .int (nI px)]) (rest := []) ⟨hx, hb, hml, hown, hts⟩ hev hS (w_take l hst hPK hI (handle (sE M) kx) (nI px) (by rw [tk_0 (ask_i hlk hpx hb9) hoff])) (cwV 2 hts gL_law_X6_take rfl rfl rfl (by decide +kernel) ⟨Nat.le_of_ble_eq_true rfl, Nat.le_of_ble_eq_true rfl⟩) (pk_recv hK hPK) rfl hl.1 (Nat.le_of_ble_eq_true rfl) dL_law_483 (by show _ ≤ (704995 : Nat); omega) (by show _ ≤ (6986640 : Nat); omega)) hS (fun rq3_ H3 locs3 hP hz3 hS => ?_)
            rw [tk_0 (ask_i hlk hpx hb9) hoff] at hP
            have er := hP.1
            have hPK := hP.2
            have hL := hPK.sl
            refine x_top (y := (mVal (sE M) kx px)) (er) ?_
            have hI8 : Inv (800 * (k + 1)) (wER M (takesE (sE M) kx px) (takesR (sE M) (sR M) kx px)) := by have := i_take hI (handle (sE M) kx) (nI px); rw [tk_0 (ask_i hlk hpx hb9) hoff] at this; exact this.mono (by omega) (by omega)
            have hR8 : LRel Y7 (wER M (takesE (sE M) kx px) (takesR (sE M) (sR M) kx px)) := hR.er hoff hT7 (fun j h1 h2 h3 h4 h9 => hj7 j h1 h4 h9) h97
            refine lv_aload_n hx hb dL_law_486 rfl (lv_at hl 19 rfl) ?_
            refine lv_bipush (v := nI 6) hx hb dL_law_487 (by decide) ?_
            refine lv_iload hx hb dL_law_489 (lv_at hl 7 rfl) ?_
            refine y_imul hx hb dL_law_491 ?_
            refine lv_iload hx hb dL_law_492 (lv_at hl 4 rfl) ?_
            refine y_iadd hx hb dL_law_494 ?_
            refine n_ld2 (i := (6 * kx) + px) hx hb hK hL (by omega) dL_law_495 ?_
            refine x_top (y := (mVal (sE M) kx px)) (hT7.1.2.2.2.2.2.1 kx px hkx hpx) ?_
            refine lv_icmp_eq (tgt := 501) hx hb dL_law_496 (by decide) (fun c496 => ?_) (fun c496 => ?_)
            · refine lv_goto (tgt := 1955) hx hb dL_law_501 (by decide) ?_
              refine W.widen (k := 200 + 4400 * k + 300) (n := 5000 + 50000 * k + 5400) (by omega) (by omega) ?_
              exact hchk _ _ _ _ ls hPK hR8 hI8 hS (lv_sub hl [11, 12, 13, 14, 15, 16, 17, 18, 19, 20, 21, 22] rfl)
            · exact absurd rfl c496
          · exact absurd c433 (by decide)
        · have hon := bI_e1 c421
          refine lv_iconst (v := nI 3) hx hb dL_law_424 (by decide) ?_
          refine lv_goto (tgt := 429) hx hb dL_law_425 (by decide) ?_
          refine lv_istore (lv' := [(22, .int (nI 3)), (21, .int (bI hv)), (20, .int (nI 1)), (19, .int vx), (18, .int (nI px)), (17, .int (handle (sE M) kx)), (16, .int (nI ox)), (15, .int (nI kx)), (14, .int (nI kd9)), (13, .int z), (12, .int x), (11, .int (nI k)), (10, .ref (g + 9)), (9, .ref (g + 8)), (8, .ref (g + 7)), (7, .ref (g + 6)), (6, .ref (g + 5)), (5, .ref (g + 4)), (4, .ref (g + 3)), (3, .ref (g + 2)), (2, .ref (g + 1)), (1, .ref b0), (0, .ref b)]) hx hb dL_law_429 hl (by decide) rfl (fun ls hl => ?_)
          refine lv_iload hx hb dL_law_431 (lv_at hl 0 rfl) ?_
          refine y_if_le hx hb (by decide) (tgt := 452) dL_law_433 (by decide) (fun c433 => ?_) (fun c433 => ?_)
          · exact absurd c433 (by decide)
          · refine lv_aload_n hx hb dL_law_436 rfl (lv_at hl 21 rfl) ?_
            refine lv_iconst (v := nI 4) hx hb dL_law_437 (by decide) ?_
            refine lv_iload hx hb dL_law_438 (lv_at hl 5 rfl) ?_
            refine lv_iload hx hb dL_law_440 (lv_at hl 4 rfl) ?_
            refine k_iN (k_SW (As := [.ref b0, .int (nI 4), .int (handle (sE M) kx), .int (nI px)]) (rest := []) ⟨hx, hb, hml, hown, hts⟩ hev hS (r_L4 l hst hPK hI (handle (sE M) kx) (nI px) (w := 3) (by rw [tk_3 (ask_i hlk hpx hb9) hon]; show ¬ (3 : Nat) = 0; decide) (by rw [tk_3 (ask_i hlk hpx hb9) hon]; rfl)) (vx_cwSW 4 hts gL_law_L_refused rfl rfl rfl (by decide +kernel) ⟨Nat.le_of_ble_eq_true rfl, Nat.le_of_ble_eq_true rfl⟩) rfl hl.1 (Nat.le_of_ble_eq_true rfl) dL_law_442 (by show _ ≤ (704995 : Nat); omega) (by show _ ≤ (6986640 : Nat); omega)) hS (fun rq4_ H4 locs4 hP hz4 hS => ?_)
            have er := hP.1
            have hPK := hP.2
            have hL := hPK.sl
            refine x_top (y := (nI 3)) (er) ?_
            refine lv_iload hx hb dL_law_445 (lv_at hl 0 rfl) ?_
            refine y_icmp_eq hx hb (by decide) (by decide) (tgt := 1986) dL_law_447 (by decide) (fun c447 => ?_) (fun c447 => ?_)
            · refine W.widen (k := 200 + 4400 * (k + 1)) (n := 5000 + 50000 * (k + 1)) (by omega) (by omega) ?_
              exact hnxt _ _ _ _ ls hPK hR (hI.mono (by omega) (by omega)) hS (lv_sub hl [11, 12, 13, 14, 15, 16, 17, 18, 19, 20, 21, 22] rfl)
            · exact absurd c447 (by decide)
    · exact absurd c404 (by decide)
  · have hl : lv_has ls 26 [(21, .int (bI hv)), (20, .int (nI 0)), (19, .int vx), (18, .int (nI px)), (17, .int (handle (sE M) kx)), (16, .int (nI ox)), (15, .int (nI kx)), (14, .int (nI kd9)), (13, .int z), (12, .int x), (11, .int (nI k)), (10, .ref (g + 9)), (9, .ref (g + 8)), (8, .ref (g + 7)), (7, .ref (g + 6)), (6, .ref (g + 5)), (5, .ref (g + 4)), (4, .ref (g + 3)), (3, .ref (g + 2)), (2, .ref (g + 1)), (1, .ref b0), (0, .ref b)] := by
      have e9 : (bI (mAl (sE M) kx)) = (nI 0) := by rw [hal]; rfl
      rw [← e9]; exact hl
    have hlk := look_d (show kx < 32 by omega) hal hh
    refine lv_iload hx hb dL_law_402 (lv_at hl 1 rfl) ?_
    refine y_if_ne hx hb (by decide) (tgt := 411) dL_law_404 (by decide) (fun c404 => ?_) (fun c404 => ?_)
    · exact absurd c404 (by decide)
    · refine lv_iconst (v := nI 1) hx hb dL_law_407 (by decide) ?_
      refine lv_goto (tgt := 429) hx hb dL_law_408 (by decide) ?_
      refine lv_istore (lv' := [(22, .int (nI 1)), (21, .int (bI hv)), (20, .int (nI 0)), (19, .int vx), (18, .int (nI px)), (17, .int (handle (sE M) kx)), (16, .int (nI ox)), (15, .int (nI kx)), (14, .int (nI kd9)), (13, .int z), (12, .int x), (11, .int (nI k)), (10, .ref (g + 9)), (9, .ref (g + 8)), (8, .ref (g + 7)), (7, .ref (g + 6)), (6, .ref (g + 5)), (5, .ref (g + 4)), (4, .ref (g + 3)), (3, .ref (g + 2)), (2, .ref (g + 1)), (1, .ref b0), (0, .ref b)]) hx hb dL_law_429 hl (by decide) rfl (fun ls hl => ?_)
      refine lv_iload hx hb dL_law_431 (lv_at hl 0 rfl) ?_
      refine y_if_le hx hb (by decide) (tgt := 452) dL_law_433 (by decide) (fun c433 => ?_) (fun c433 => ?_)
      · exact absurd c433 (by decide)
      · refine lv_aload_n hx hb dL_law_436 rfl (lv_at hl 21 rfl) ?_
        refine lv_iconst (v := nI 4) hx hb dL_law_437 (by decide) ?_
        refine lv_iload hx hb dL_law_438 (lv_at hl 5 rfl) ?_
        refine lv_iload hx hb dL_law_440 (lv_at hl 4 rfl) ?_
        refine k_iN (k_SW (As := [.ref b0, .int (nI 4), .int (handle (sE M) kx), .int (nI px)]) (rest := []) ⟨hx, hb, hml, hown, hts⟩ hev hS (r_L4 l hst hPK hI (handle (sE M) kx) (nI px) (w := 1) (by rw [tk_e (by rw [ask_1 hlk]; decide), ask_1 hlk]; show ¬ (1 : Nat) = 0; decide) (by rw [tk_e (by rw [ask_1 hlk]; decide), ask_1 hlk]; rfl)) (vx_cwSW 4 hts gL_law_L_refused rfl rfl rfl (by decide +kernel) ⟨Nat.le_of_ble_eq_true rfl, Nat.le_of_ble_eq_true rfl⟩) rfl hl.1 (Nat.le_of_ble_eq_true rfl) dL_law_442 (by show _ ≤ (704995 : Nat); omega) (by show _ ≤ (6986640 : Nat); omega)) hS (fun rq5_ H5 locs5 hP hz5 hS => ?_)
        have er := hP.1
        have hPK := hP.2
        have hL := hPK.sl
        refine x_top (y := (nI 1)) (er) ?_
        refine lv_iload hx hb dL_law_445 (lv_at hl 0 rfl) ?_
        refine y_icmp_eq hx hb (by decide) (by decide) (tgt := 1986) dL_law_447 (by decide) (fun c447 => ?_) (fun c447 => ?_)
        · refine W.widen (k := 200 + 4400 * (k + 1)) (n := 5000 + 50000 * (k + 1)) (by omega) (by omega) ?_
          exact hnxt _ _ _ _ ls hPK hR (hI.mono (by omega) (by omega)) hS (lv_sub hl [11, 12, 13, 14, 15, 16, 17, 18, 19, 20, 21, 22] rfl)
        · exact absurd c447 (by decide)
set_option maxHeartbeats 4000000 in
set_option maxRecDepth 100000 in
theorem law_set {p : Program} {l : Launch} {e : Env} {s : State} {m : MethodId} {below : List Frame} {meth : Method} {c : Code} {Q : State → Prop} {b : Nat} {D : va_G} {T : Nat → ClassId} {dE mi b0 g : Nat} (hst : l.stackTraces = false) (hx : p.tables.exec = Jvm.exec) (hb : c.code = cL_law) (hml : c.maxLocals = 26) (hown : s.vm.findClass RL = some m.cls) (hts : ∀ w ∈ wsL_law, w.before #[Value.ref b] s = true) (hev : EV D T dE mi (fun q : Nat => s.heap.size ≤ q) s) {k : Nat} (hk : k < 70) {H : Heap} {locs : List Loc} {M : mSt} {Y : Nat → Nat → Int32} (hPK : PK D T dE b0 (fun q : Nat => s.heap.size ≤ q) g Y M H) (hR : LRel Y M) (hI : Inv (800 * k) M) (hS : va_S (fun q : Nat => s.heap.size ≤ q) s.heap H locs) {kx ox px kd9 : Nat} {x z vx : Int32} {hv : Bool} (hkx : kx < 10) (hox : ox < 10) (hpx : px < 6) (hhv : mAl (sE M) kx = true → hv = bitS (mKd (sE M) kx) px) {ls : Array Slot} (hl : lv_has ls 26 [(21, .int (bI hv)), (20, .int (bI (mAl (sE M) kx))), (19, .int vx), (18, .int (nI px)), (17, .int (handle (sE M) kx)), (16, .int (nI ox)), (15, .int (nI kx)), (14, .int (nI kd9)), (13, .int z), (12, .int x), (11, .int (nI k)), (10, .ref (g + 9)), (9, .ref (g + 8)), (8, .ref (g + 7)), (7, .ref (g + 6)), (6, .ref (g + 5)), (5, .ref (g + 4)), (4, .ref (g + 3)), (3, .ref (g + 2)), (2, .ref (g + 1)), (1, .ref b0), (0, .ref b)])
    (hchk : ∀ (H1 : Heap) (locs1 : List Loc) (M1 : mSt) (Y1 : Nat → Nat → Int32) (ls1 : Array Slot), PK D T dE b0 (fun q : Nat => s.heap.size ≤ q) g Y1 M1 H1 → LRel Y1 M1 → Inv (800 * (k + 1)) M1 → va_S (fun q : Nat => s.heap.size ≤ q) s.heap H1 locs1 → lv_has ls1 26 [(11, .int (nI k)), (10, .ref (g + 9)), (9, .ref (g + 8)), (8, .ref (g + 7)), (7, .ref (g + 6)), (6, .ref (g + 5)), (5, .ref (g + 4)), (4, .ref (g + 3)), (3, .ref (g + 2)), (2, .ref (g + 1)), (1, .ref b0), (0, .ref b)] → W p l e room_1 s m #[Value.ref b] below meth c H1 locs1 (200 + 4400 * k + 300) (5000 + 50000 * k + 5400) Q (F0 m 1955 ls1 [])) (hnxt : ∀ (H1 : Heap) (locs1 : List Loc) (M1 : mSt) (Y1 : Nat → Nat → Int32) (ls1 : Array Slot), PK D T dE b0 (fun q : Nat => s.heap.size ≤ q) g Y1 M1 H1 → LRel Y1 M1 → Inv (800 * (k + 1)) M1 → va_S (fun q : Nat => s.heap.size ≤ q) s.heap H1 locs1 → lv_has ls1 26 [(11, .int (nI k)), (10, .ref (g + 9)), (9, .ref (g + 8)), (8, .ref (g + 7)), (7, .ref (g + 6)), (6, .ref (g + 5)), (5, .ref (g + 4)), (4, .ref (g + 3)), (3, .ref (g + 2)), (2, .ref (g + 1)), (1, .ref b0), (0, .ref b)] → W p l e room_1 s m #[Value.ref b] below meth c H1 locs1 (200 + 4400 * (k + 1)) (5000 + 50000 * (k + 1)) Q (F0 m 1986 ls1 [])) (hrtn : ∀ (H1 : Heap) (locs1 : List Loc) (ls1 : Array Slot), va_S (fun q : Nat => s.heap.size ≤ q) s.heap H1 locs1 → W p l e room_1 s m #[Value.ref b] below meth c H1 locs1 (200 + 4400 * (k + 1)) (5000 + 50000 * (k + 1)) Q (F0 m 1848 ls1 [.int (nI 1)])) : W p l e room_1 s m #[Value.ref b] below meth c H locs (200 + 4400 * k) (5000 + 50000 * k) Q (F0 m 511 ls []) := by
  have hK := hev.1
  have hL := hPK.sl
  have hAS := hPK.as
  have hh := hI.had
  have iE := hI.1
  have iR := hI.2.1
  have hT := hR.1
  have h10 := hT.1.2.2.2.2.1
  rcases Bool.eq_false_or_eq_true (mAl (sE M) kx) with hal | hal
  · have hl : lv_has ls 26 [(21, .int (bI hv)), (20, .int (bI (mAl (sE M) kx))), (19, .int vx), (18, .int (nI px)), (17, .int (handle (sE M) kx)), (16, .int (nI ox)), (15, .int (nI kx)), (14, .int (nI kd9)), (13, .int z), (12, .int x), (11, .int (nI k)), (10, .ref (g + 9)), (9, .ref (g + 8)), (8, .ref (g + 7)), (7, .ref (g + 6)), (6, .ref (g + 5)), (5, .ref (g + 4)), (4, .ref (g + 3)), (3, .ref (g + 2)), (2, .ref (g + 1)), (1, .ref b0), (0, .ref b)] := hl
    have hl : lv_has ls 26 [(21, .int (bI hv)), (20, .int (nI 1)), (19, .int vx), (18, .int (nI px)), (17, .int (handle (sE M) kx)), (16, .int (nI ox)), (15, .int (nI kx)), (14, .int (nI kd9)), (13, .int z), (12, .int x), (11, .int (nI k)), (10, .ref (g + 9)), (9, .ref (g + 8)), (8, .ref (g + 7)), (7, .ref (g + 6)), (6, .ref (g + 5)), (5, .ref (g + 4)), (4, .ref (g + 3)), (3, .ref (g + 2)), (2, .ref (g + 1)), (1, .ref b0), (0, .ref b)] := by
      have e9 : (bI (mAl (sE M) kx)) = (nI 1) := by rw [hal]; rfl
      rw [← e9]; exact hl
    have hlk := look_h (show kx < 32 by omega) hal hh
    have hk64 := iE.1 kx
    refine lv_iload hx hb dL_law_511 (lv_at hl 1 rfl) ?_
    refine y_if_eq hx hb (by decide) (tgt := 1986) dL_law_513 (by decide) (fun c513 => ?_) (fun c513 => ?_)
    · exact absurd c513 (by decide)
    · refine lv_iload hx hb dL_law_516 (lv_at hl 0 rfl) ?_
      refine y_bif_ne hx hb (tgt := 524) dL_law_518 (by decide) (fun c518 => ?_) (fun c518 => ?_)
      · have hb9 := (hhv hal).symm.trans c518
        refine lv_aload_n hx hb dL_law_524 rfl (lv_at hl 18 rfl) ?_
        refine lv_bipush (v := nI 6) hx hb dL_law_525 (by decide) ?_
        refine lv_iload hx hb dL_law_527 (lv_at hl 6 rfl) ?_
        refine y_imul hx hb dL_law_529 ?_
        refine lv_iload hx hb dL_law_530 (lv_at hl 3 rfl) ?_
        refine y_iadd hx hb dL_law_532 ?_
        refine n_ld2 (i := (6 * kx) + px) hx hb hK hL (by omega) dL_law_533 ?_
        refine x_top (y := (mVal (sE M) kx px)) (hT.1.2.2.2.2.2.1 kx px hkx hpx) ?_
        refine lv_istore (lv' := [(22, .int (mVal (sE M) kx px)), (21, .int (bI hv)), (20, .int (nI 1)), (19, .int vx), (18, .int (nI px)), (17, .int (handle (sE M) kx)), (16, .int (nI ox)), (15, .int (nI kx)), (14, .int (nI kd9)), (13, .int z), (12, .int x), (11, .int (nI k)), (10, .ref (g + 9)), (9, .ref (g + 8)), (8, .ref (g + 7)), (7, .ref (g + 6)), (6, .ref (g + 5)), (5, .ref (g + 4)), (4, .ref (g + 3)), (3, .ref (g + 2)), (2, .ref (g + 1)), (1, .ref b0), (0, .ref b)]) hx hb dL_law_534 hl (by decide) rfl (fun ls hl => ?_)
        refine lv_aload_n hx hb dL_law_536 rfl (lv_at hl 19 rfl) ?_
        refine lv_bipush (v := nI 6) hx hb dL_law_537 (by decide) ?_
        refine lv_iload hx hb dL_law_539 (lv_at hl 7 rfl) ?_
        refine y_imul hx hb dL_law_541 ?_
        refine lv_iload hx hb dL_law_542 (lv_at hl 4 rfl) ?_
        refine y_iadd hx hb dL_law_544 ?_
        refine lv_iload hx hb dL_law_545 (lv_at hl 3 rfl) ?_
        refine n_st2 (i := (6 * kx) + px) (v := vx) hx hb hK hS hL hAS (by omega) dL_law_547 (fun H1 locs1 hL hz1 hq1 hS => ?_)
        have hPK := hPK.w hL (Nat.le_of_eq hz1.symm) (fun q _ zz => hq1 q zz)
        obtain ⟨Y1, hPK, hL, hY1⟩ : ∃ Yn, PK D T dE b0 (fun q : Nat => s.heap.size ≤ q) g Yn M H1 ∧ SL T g Yn H1 ∧ Yn = up2 Y 2 (upd (Y 2) ((6 * kx) + px) vx) := ⟨_, hPK, hL, rfl⟩
        refine lv_aload hx hb dL_law_548 (lv_at hl 18 rfl) ?_
        refine lv_bipush (v := nI 6) hx hb dL_law_550 (by decide) ?_
        refine lv_iload hx hb dL_law_552 (lv_at hl 7 rfl) ?_
        refine y_imul hx hb dL_law_554 ?_
        refine lv_iload hx hb dL_law_555 (lv_at hl 4 rfl) ?_
        refine y_iadd hx hb dL_law_557 ?_
        refine lv_aload hx hb dL_law_558 (lv_at hl 12 rfl) ?_
        refine lv_iconst (v := nI 1) hx hb dL_law_560 (by decide) ?_
        refine n_ld9 (i := 1) hx hb hK hL (by omega) dL_law_561 ?_
        refine x_top (y := (sT M)) (by rw [hY1]; exact hR.2.2.2.1) ?_
        refine n_st3 (i := (6 * kx) + px) (v := (sT M)) hx hb hK hS hL hAS (by omega) dL_law_562 (fun H2 locs2 hL hz2 hq2 hS => ?_)
        have hPK := hPK.w hL (Nat.le_of_eq hz2.symm) (fun q _ zz => hq2 q zz)
        obtain ⟨Y2, hPK, hL, hY2⟩ : ∃ Yn, PK D T dE b0 (fun q : Nat => s.heap.size ≤ q) g Yn M H2 ∧ SL T g Yn H2 ∧ Yn = up2 Y1 3 (upd (Y1 3) ((6 * kx) + px) (sT M)) := ⟨_, hPK, hL, rfl⟩
        have hT6 : LTw Y2 (putE (sE M) kx px vx (sT M)) (sR M) := hT.put hkx hpx (by rw [hY2, hY1]; rfl) (by rw [hY2, hY1]; rfl) (by rw [hY2, hY1]; rfl) (by rw [hY2, hY1]; rfl) (by rw [hY2, hY1]; rfl)
        refine lv_aload_n hx hb dL_law_563 rfl (lv_at hl 21 rfl) ?_
        refine lv_iload hx hb dL_law_564 (lv_at hl 5 rfl) ?_
        refine lv_iload hx hb dL_law_566 (lv_at hl 4 rfl) ?_
        refine lv_iload hx hb dL_law_568 (lv_at hl 3 rfl) ?_
        refine k_iN (k_V (As := [.int (handle (sE M) kx), .int (nI px), .int vx]) (rest := []) ⟨hx, hb, hml, hown, hts⟩ hev hS (w_set l hst hPK hI (handle (sE M) kx) (nI px) (vx) (by rw [set_0 (ask_i hlk hpx hb9)])) (cwV 3 hts gL_law_X6_set rfl rfl rfl (by decide +kernel) ⟨Nat.le_of_ble_eq_true rfl, Nat.le_of_ble_eq_true rfl⟩) (pk_recv hK hPK) rfl hl.1 (Nat.le_of_ble_eq_true rfl) dL_law_570 (by show _ ≤ (704995 : Nat); omega) (by show _ ≤ (6986640 : Nat); omega)) hS (fun rq3_ H3 locs3 hP hz3 hS => ?_)
        rw [set_0 (ask_i hlk hpx hb9)] at hP
        have er := hP.1
        have hPK := hP.2
        have hL := hPK.sl
        refine x_top (y := (mVal (sE M) kx px)) (er) ?_
        have hI8 : Inv (800 * (k + 1)) (wE M (putE (sE M) kx px vx (sT M))) := by have := i_set hI (handle (sE M) kx) (nI px) vx; rw [set_0 (ask_i hlk hpx hb9)] at this; exact this.mono (by omega) (by omega)
        have hR8 : LRel Y2 (wE M (putE (sE M) kx px vx (sT M))) := hR.e rfl hT6 (fun j h1 h2 h3 => by rw [hY2, hY1]; simp only [up2, if_neg h2, if_neg h3])
        refine lv_iload hx hb dL_law_573 (lv_at hl 0 rfl) ?_
        refine lv_icmp_eq (tgt := 580) hx hb dL_law_575 (by decide) (fun c575 => ?_) (fun c575 => ?_)
        · refine lv_goto (tgt := 1955) hx hb dL_law_580 (by decide) ?_
          refine W.widen (k := 200 + 4400 * k + 300) (n := 5000 + 50000 * k + 5400) (by omega) (by omega) ?_
          exact hchk _ _ _ _ ls hPK hR8 hI8 hS (lv_sub hl [11, 12, 13, 14, 15, 16, 17, 18, 19, 20, 21, 22] rfl)
        · exact absurd rfl c575
      · refine lv_goto (tgt := 1986) hx hb dL_law_521 (by decide) ?_
        refine W.widen (k := 200 + 4400 * (k + 1)) (n := 5000 + 50000 * (k + 1)) (by omega) (by omega) ?_
        exact hnxt _ _ _ _ ls hPK hR (hI.mono (by omega) (by omega)) hS (lv_sub hl [10, 11, 12, 13, 14, 15, 16, 17, 18, 19, 20, 21] rfl)
  · have hl : lv_has ls 26 [(21, .int (bI hv)), (20, .int (nI 0)), (19, .int vx), (18, .int (nI px)), (17, .int (handle (sE M) kx)), (16, .int (nI ox)), (15, .int (nI kx)), (14, .int (nI kd9)), (13, .int z), (12, .int x), (11, .int (nI k)), (10, .ref (g + 9)), (9, .ref (g + 8)), (8, .ref (g + 7)), (7, .ref (g + 6)), (6, .ref (g + 5)), (5, .ref (g + 4)), (4, .ref (g + 3)), (3, .ref (g + 2)), (2, .ref (g + 1)), (1, .ref b0), (0, .ref b)] := by
      have e9 : (bI (mAl (sE M) kx)) = (nI 0) := by rw [hal]; rfl
      rw [← e9]; exact hl
    have hlk := look_d (show kx < 32 by omega) hal hh
    refine lv_iload hx hb dL_law_511 (lv_at hl 1 rfl) ?_
    refine y_if_eq hx hb (by decide) (tgt := 1986) dL_law_513 (by decide) (fun c513 => ?_) (fun c513 => ?_)
    · refine W.widen (k := 200 + 4400 * (k + 1)) (n := 5000 + 50000 * (k + 1)) (by omega) (by omega) ?_
      exact hnxt _ _ _ _ ls hPK hR (hI.mono (by omega) (by omega)) hS (lv_sub hl [10, 11, 12, 13, 14, 15, 16, 17, 18, 19, 20, 21] rfl)
    · exact absurd c513 (by decide)
set_option maxHeartbeats 4000000 in
set_option maxRecDepth 100000 in
theorem law_end {p : Program} {l : Launch} {e : Env} {s : State} {m : MethodId} {below : List Frame} {meth : Method} {c : Code} {Q : State → Prop} {b : Nat} {D : va_G} {T : Nat → ClassId} {dE mi b0 g : Nat} (hst : l.stackTraces = false) (hx : p.tables.exec = Jvm.exec) (hb : c.code = cL_law) (hml : c.maxLocals = 26) (hown : s.vm.findClass RL = some m.cls) (hts : ∀ w ∈ wsL_law, w.before #[Value.ref b] s = true) (hev : EV D T dE mi (fun q : Nat => s.heap.size ≤ q) s) {k : Nat} (hk : k < 70) {H : Heap} {locs : List Loc} {M : mSt} {Y : Nat → Nat → Int32} (hPK : PK D T dE b0 (fun q : Nat => s.heap.size ≤ q) g Y M H) (hR : LRel Y M) (hI : Inv (800 * k) M) (hS : va_S (fun q : Nat => s.heap.size ≤ q) s.heap H locs) {kx ox px kd9 : Nat} {x z vx : Int32} {hv : Bool} (hkx : kx < 10) (hox : ox < 10) (hpx : px < 6) (hhv : mAl (sE M) kx = true → hv = bitS (mKd (sE M) kx) px) {ls : Array Slot} (hl : lv_has ls 26 [(21, .int (bI hv)), (20, .int (bI (mAl (sE M) kx))), (19, .int vx), (18, .int (nI px)), (17, .int (handle (sE M) kx)), (16, .int (nI ox)), (15, .int (nI kx)), (14, .int (nI kd9)), (13, .int z), (12, .int x), (11, .int (nI k)), (10, .ref (g + 9)), (9, .ref (g + 8)), (8, .ref (g + 7)), (7, .ref (g + 6)), (6, .ref (g + 5)), (5, .ref (g + 4)), (4, .ref (g + 3)), (3, .ref (g + 2)), (2, .ref (g + 1)), (1, .ref b0), (0, .ref b)])
    (hchk : ∀ (H1 : Heap) (locs1 : List Loc) (M1 : mSt) (Y1 : Nat → Nat → Int32) (ls1 : Array Slot), PK D T dE b0 (fun q : Nat => s.heap.size ≤ q) g Y1 M1 H1 → LRel Y1 M1 → Inv (800 * (k + 1)) M1 → va_S (fun q : Nat => s.heap.size ≤ q) s.heap H1 locs1 → lv_has ls1 26 [(11, .int (nI k)), (10, .ref (g + 9)), (9, .ref (g + 8)), (8, .ref (g + 7)), (7, .ref (g + 6)), (6, .ref (g + 5)), (5, .ref (g + 4)), (4, .ref (g + 3)), (3, .ref (g + 2)), (2, .ref (g + 1)), (1, .ref b0), (0, .ref b)] → W p l e room_1 s m #[Value.ref b] below meth c H1 locs1 (200 + 4400 * k + 300) (5000 + 50000 * k + 5400) Q (F0 m 1955 ls1 [])) (hnxt : ∀ (H1 : Heap) (locs1 : List Loc) (M1 : mSt) (Y1 : Nat → Nat → Int32) (ls1 : Array Slot), PK D T dE b0 (fun q : Nat => s.heap.size ≤ q) g Y1 M1 H1 → LRel Y1 M1 → Inv (800 * (k + 1)) M1 → va_S (fun q : Nat => s.heap.size ≤ q) s.heap H1 locs1 → lv_has ls1 26 [(11, .int (nI k)), (10, .ref (g + 9)), (9, .ref (g + 8)), (8, .ref (g + 7)), (7, .ref (g + 6)), (6, .ref (g + 5)), (5, .ref (g + 4)), (4, .ref (g + 3)), (3, .ref (g + 2)), (2, .ref (g + 1)), (1, .ref b0), (0, .ref b)] → W p l e room_1 s m #[Value.ref b] below meth c H1 locs1 (200 + 4400 * (k + 1)) (5000 + 50000 * (k + 1)) Q (F0 m 1986 ls1 [])) (hrtn : ∀ (H1 : Heap) (locs1 : List Loc) (ls1 : Array Slot), va_S (fun q : Nat => s.heap.size ≤ q) s.heap H1 locs1 → W p l e room_1 s m #[Value.ref b] below meth c H1 locs1 (200 + 4400 * (k + 1)) (5000 + 50000 * (k + 1)) Q (F0 m 1848 ls1 [.int (nI 1)])) : W p l e room_1 s m #[Value.ref b] below meth c H locs (200 + 4400 * k) (5000 + 50000 * k) Q (F0 m 590 ls []) := by
  have hK := hev.1
  have hL := hPK.sl
  have hAS := hPK.as
  have hh := hI.had
  have iE := hI.1
  have iR := hI.2.1
  have hT := hR.1
  have h10 := hT.1.2.2.2.2.1
  rcases Bool.eq_false_or_eq_true (mAl (sE M) kx) with hal | hal
  · have hl : lv_has ls 26 [(21, .int (bI hv)), (20, .int (bI (mAl (sE M) kx))), (19, .int vx), (18, .int (nI px)), (17, .int (handle (sE M) kx)), (16, .int (nI ox)), (15, .int (nI kx)), (14, .int (nI kd9)), (13, .int z), (12, .int x), (11, .int (nI k)), (10, .ref (g + 9)), (9, .ref (g + 8)), (8, .ref (g + 7)), (7, .ref (g + 6)), (6, .ref (g + 5)), (5, .ref (g + 4)), (4, .ref (g + 3)), (3, .ref (g + 2)), (2, .ref (g + 1)), (1, .ref b0), (0, .ref b)] := hl
    have hl : lv_has ls 26 [(21, .int (bI hv)), (20, .int (nI 1)), (19, .int vx), (18, .int (nI px)), (17, .int (handle (sE M) kx)), (16, .int (nI ox)), (15, .int (nI kx)), (14, .int (nI kd9)), (13, .int z), (12, .int x), (11, .int (nI k)), (10, .ref (g + 9)), (9, .ref (g + 8)), (8, .ref (g + 7)), (7, .ref (g + 6)), (6, .ref (g + 5)), (5, .ref (g + 4)), (4, .ref (g + 3)), (3, .ref (g + 2)), (2, .ref (g + 1)), (1, .ref b0), (0, .ref b)] := by
      have e9 : (bI (mAl (sE M) kx)) = (nI 1) := by rw [hal]; rfl
      rw [← e9]; exact hl
    have hlk := look_h (show kx < 32 by omega) hal hh
    have hk64 := iE.1 kx
    refine lv_iload hx hb dL_law_590 (lv_at hl 1 rfl) ?_
    refine y_if_eq hx hb (by decide) (tgt := 603) dL_law_592 (by decide) (fun c592 => ?_) (fun c592 => ?_)
    · exact absurd c592 (by decide)
    · refine lv_aload hx hb dL_law_595 (lv_at hl 11 rfl) ?_
      refine lv_iconst (v := nI 4) hx hb dL_law_597 (by decide) ?_
      refine n_ld9 (i := 4) hx hb hK hL (by omega) dL_law_598 ?_
      refine x_top (y := (bI (wOn (sW M)))) (hR.2.2.2.2.1) ?_
      refine lv_iconst (v := nI 1) hx hb dL_law_599 (by decide) ?_
      refine lv_icmp_ne (tgt := 626) hx hb dL_law_600 (by decide) (fun c600 => ?_) (fun c600 => ?_)
      · have hoff := bI_n1 c600
        refine lv_iload hx hb dL_law_626 (lv_at hl 8 rfl) ?_
        refine lv_iconst (v := nI 2) hx hb dL_law_628 (by decide) ?_
        refine k_iN (k_S (As := [.int z, .int (nI 2)]) (rest := []) ⟨hx, hb, hml, hown, hts⟩ hev hS (c_L_low l z (q := 2) (by decide) (by decide)) (va_cwS 2 hts gL_law_L_low rfl rfl rfl (by decide +kernel) ⟨Nat.le_of_ble_eq_true rfl, Nat.le_of_ble_eq_true rfl⟩) rfl hl.1 (Nat.le_of_ble_eq_true rfl) dL_law_629 (by show _ ≤ (704995 : Nat); omega) (by show _ ≤ (6986640 : Nat); omega)) hS (fun rq1_ H1 locs1 hP hz1 hS => ?_)
        refine W.widen (k := 200 + 4400 * k) (n := 5000 + 50000 * k) (Nat.le_refl _) (Nat.le_refl _) ?_
        have hPK : PK D T dE b0 (fun q : Nat => s.heap.size ≤ q) g Y M H1 := by rw [hP.1]; exact hPK
        have hL := hPK.sl
        obtain ⟨-, j9, hj9, ej9⟩ := hP
        have hP9 := hj9
        refine x_top (y := (nI j9)) (ej9) ?_
        refine y_if_ne hx hb (by omega) (tgt := 1955) dL_law_632 (by decide) (fun c632 => ?_) (fun c632 => ?_)
        · refine W.widen (k := 200 + 4400 * k + 300) (n := 5000 + 50000 * k + 5400) (by omega) (by omega) ?_
          exact hchk _ _ _ _ ls hPK hR (hI.mono (by omega) (by omega)) hS (lv_sub hl [10, 11, 12, 13, 14, 15, 16, 17, 18, 19, 20, 21] rfl)
        · refine lv_aload_n hx hb dL_law_635 rfl (lv_at hl 20 rfl) ?_
          refine lv_iload hx hb dL_law_636 (lv_at hl 4 rfl) ?_
          refine k_iN (k_V (As := [.int (handle (sE M) kx)]) (rest := []) ⟨hx, hb, hml, hown, hts⟩ hev hS (w_end l hst hPK hI (handle (sE M) kx) (by rw [en_e0 hlk hoff])) (cwV 1 hts gL_law_X6_end rfl rfl rfl (by decide +kernel) ⟨Nat.le_of_ble_eq_true rfl, Nat.le_of_ble_eq_true rfl⟩) (pk_recv hK hPK) rfl hl.1 (Nat.le_of_ble_eq_true rfl) dL_law_638 (by show _ ≤ (704995 : Nat); omega) (by show _ ≤ (6986640 : Nat); omega)) hS (fun rq2_ H2 locs2 hP hz2 hS => ?_)
          rw [en_e0 hlk hoff] at hP
          have er := hP.1
          have hPK := hP.2
          have hL := hPK.sl
          refine x_top (y := (nI (ends (sE M) (sR M) kx).2.2)) (er) ?_
          have hI8 : Inv (800 * (k + 1)) (wER M (ends (sE M) (sR M) kx).1 (ends (sE M) (sR M) kx).2.1) := by have := i_end hI (by omega) (handle (sE M) kx); rw [en_e0 hlk hoff] at this; exact this.mono (by omega) (by omega)
          refine lv_iload hx hb dL_law_641 (lv_at hl 6 rfl) ?_
          refine lv_aload_n hx hb dL_law_643 rfl (lv_at hl 19 rfl) ?_
          refine k_iA (k_SA (As := [.int (nI kx), .ref (g + 1)]) (rest := [.int (nI (ends (sE M) (sR M) kx).2.2)]) ⟨hx, hb, hml, hown, hts⟩ hev hS hAS (c_L_end l hL hT iE iR hal) (va_cwS 2 hts gL_law_L_end rfl rfl rfl (by decide +kernel) ⟨Nat.le_of_ble_eq_true rfl, Nat.le_of_ble_eq_true rfl⟩) rfl hl.1 (Nat.le_of_ble_eq_true rfl) dL_law_644 (by show _ ≤ (704995 : Nat); omega) (by show _ ≤ (6986640 : Nat); omega)) hS hAS (fun rq3_ H3 locs3 hP hz3 hk3 hS => ?_)
          refine W.widen (k := 200 + 4400 * k + 7) (n := 5000 + 50000 * k + 95) (Nat.le_refl _) (Nat.le_refl _) ?_
          obtain ⟨er, Y5, hL, hT5, hj5⟩ := hP
          have hPK := hPK.w hL hz3 hk3
          refine x_top (y := (nI (ends (sE M) (sR M) kx).2.2)) (er) ?_
          have hR8 : LRel Y5 (wER M (ends (sE M) (sR M) kx).1 (ends (sE M) (sR M) kx).2.1) := hR.er hoff hT5 (fun j h1 _ _ _ _ => hj5 j h1) (fun i _ => by rw [hj5 9 (by decide)])
          refine lv_icmp_eq (tgt := 1955) hx hb dL_law_647 (by decide) (fun c647 => ?_) (fun c647 => ?_)
          · refine W.widen (k := 200 + 4400 * k + 300) (n := 5000 + 50000 * k + 5400) (by omega) (by omega) ?_
            exact hchk _ _ _ _ ls hPK hR8 hI8 hS (lv_sub hl [10, 11, 12, 13, 14, 15, 16, 17, 18, 19, 20, 21] rfl)
          · exact absurd rfl c647
      · have hon := bI_e1 c600
        refine lv_aload_n hx hb dL_law_603 rfl (lv_at hl 20 rfl) ?_
        refine lv_iconst (v := nI 1) hx hb dL_law_604 (by decide) ?_
        refine lv_iload hx hb dL_law_605 (lv_at hl 4 rfl) ?_
        refine lv_iconst (v := nI 0) hx hb dL_law_607 (by decide) ?_
        refine k_iN (k_SW (As := [.ref b0, .int (nI 1), .int (handle (sE M) kx), .int (nI 0)]) (rest := []) ⟨hx, hb, hml, hown, hts⟩ hev hS (r_L1 l hst hPK hI (handle (sE M) kx) (nI 0) (w := 3) (by rw [en_e2 hlk hon]; show ¬ (2 : Nat) = 0; decide) (by rw [en_e2 hlk hon]; rfl)) (vx_cwSW 4 hts gL_law_L_refused rfl rfl rfl (by decide +kernel) ⟨Nat.le_of_ble_eq_true rfl, Nat.le_of_ble_eq_true rfl⟩) rfl hl.1 (Nat.le_of_ble_eq_true rfl) dL_law_608 (by show _ ≤ (704995 : Nat); omega) (by show _ ≤ (6986640 : Nat); omega)) hS (fun rq4_ H4 locs4 hP hz4 hS => ?_)
        have er := hP.1
        have hPK := hP.2
        have hL := hPK.sl
        refine x_top (y := (nI 3)) (er) ?_
        refine lv_iload hx hb dL_law_611 (lv_at hl 1 rfl) ?_
        refine y_if_eq hx hb (by decide) (tgt := 620) dL_law_613 (by decide) (fun c613 => ?_) (fun c613 => ?_)
        · exact absurd c613 (by decide)
        · refine lv_iconst (v := nI 3) hx hb dL_law_616 (by decide) ?_
          refine lv_goto (tgt := 621) hx hb dL_law_617 (by decide) ?_
          refine y_icmp_eq hx hb (by decide) (by decide) (tgt := 1986) dL_law_621 (by decide) (fun c621 => ?_) (fun c621 => ?_)
          · refine W.widen (k := 200 + 4400 * (k + 1)) (n := 5000 + 50000 * (k + 1)) (by omega) (by omega) ?_
            exact hnxt _ _ _ _ ls hPK hR (hI.mono (by omega) (by omega)) hS (lv_sub hl [10, 11, 12, 13, 14, 15, 16, 17, 18, 19, 20, 21] rfl)
          · exact absurd c621 (by decide)
  · have hl : lv_has ls 26 [(21, .int (bI hv)), (20, .int (nI 0)), (19, .int vx), (18, .int (nI px)), (17, .int (handle (sE M) kx)), (16, .int (nI ox)), (15, .int (nI kx)), (14, .int (nI kd9)), (13, .int z), (12, .int x), (11, .int (nI k)), (10, .ref (g + 9)), (9, .ref (g + 8)), (8, .ref (g + 7)), (7, .ref (g + 6)), (6, .ref (g + 5)), (5, .ref (g + 4)), (4, .ref (g + 3)), (3, .ref (g + 2)), (2, .ref (g + 1)), (1, .ref b0), (0, .ref b)] := by
      have e9 : (bI (mAl (sE M) kx)) = (nI 0) := by rw [hal]; rfl
      rw [← e9]; exact hl
    have hlk := look_d (show kx < 32 by omega) hal hh
    refine lv_iload hx hb dL_law_590 (lv_at hl 1 rfl) ?_
    refine y_if_eq hx hb (by decide) (tgt := 603) dL_law_592 (by decide) (fun c592 => ?_) (fun c592 => ?_)
    · refine lv_aload_n hx hb dL_law_603 rfl (lv_at hl 20 rfl) ?_
      refine lv_iconst (v := nI 1) hx hb dL_law_604 (by decide) ?_
      refine lv_iload hx hb dL_law_605 (lv_at hl 4 rfl) ?_
      refine lv_iconst (v := nI 0) hx hb dL_law_607 (by decide) ?_
      refine k_iN (k_SW (As := [.ref b0, .int (nI 1), .int (handle (sE M) kx), .int (nI 0)]) (rest := []) ⟨hx, hb, hml, hown, hts⟩ hev hS (r_L1 l hst hPK hI (handle (sE M) kx) (nI 0) (w := 1) (by rw [en_e1 hlk]; show ¬ (1 : Nat) = 0; decide) (by rw [en_e1 hlk]; rfl)) (vx_cwSW 4 hts gL_law_L_refused rfl rfl rfl (by decide +kernel) ⟨Nat.le_of_ble_eq_true rfl, Nat.le_of_ble_eq_true rfl⟩) rfl hl.1 (Nat.le_of_ble_eq_true rfl) dL_law_608 (by show _ ≤ (704995 : Nat); omega) (by show _ ≤ (6986640 : Nat); omega)) hS (fun rq5_ H5 locs5 hP hz5 hS => ?_)
      have er := hP.1
      have hPK := hP.2
      have hL := hPK.sl
      refine x_top (y := (nI 1)) (er) ?_
      refine lv_iload hx hb dL_law_611 (lv_at hl 1 rfl) ?_
      refine y_if_eq hx hb (by decide) (tgt := 620) dL_law_613 (by decide) (fun c613 => ?_) (fun c613 => ?_)
      · refine lv_iconst (v := nI 1) hx hb dL_law_620 (by decide) ?_
        refine y_icmp_eq hx hb (by decide) (by decide) (tgt := 1986) dL_law_621 (by decide) (fun c621 => ?_) (fun c621 => ?_)
        · refine W.widen (k := 200 + 4400 * (k + 1)) (n := 5000 + 50000 * (k + 1)) (by omega) (by omega) ?_
          exact hnxt _ _ _ _ ls hPK hR (hI.mono (by omega) (by omega)) hS (lv_sub hl [10, 11, 12, 13, 14, 15, 16, 17, 18, 19, 20, 21] rfl)
        · exact absurd c621 (by decide)
      · exact absurd c613 (by decide)
    · exact absurd c592 (by decide)

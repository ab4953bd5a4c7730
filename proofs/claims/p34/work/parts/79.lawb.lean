theorem okOf {Y : Nat → Nat → Int32} {E : mE} {R : mR} (hE : LE Y E) (iR : InvR E R) : okR R := ⟨iR.1, iR.2.1, fun r j hr hj => by have := hE.2.2.2.2.1 _ (iR.2.2.1 r j hr hj).1; omega, iR.2.2.2.1⟩
/-- where an entity stands -/
theorem stands {E : mE} {R : mR} (iR : InvR E R) {k : Nat} (hk : mAl E k = true) : ∃ j z, row R (mKd E k) < rN R ∧ j < rZ R (row R (mKd E k)) ∧ rM R (row R (mKd E k)) j = k ∧ rZ R (row R (mKd E k)) = z + 1 := by
  obtain ⟨r, j, hr, hj, e⟩ := iR.2.2.2.2.1 k hk
  have hd := (iR.2.2.1 r j hr hj).2
  rw [e] at hd
  have er : row R (mKd E k) = r := row_of iR.2.1 hr hd.symm
  rw [er]
  exact ⟨j, rZ R r - 1, hr, hj, e, by omega⟩
theorem LRw.cong {Y Y1 : Nat → Nat → Int32} {R R1 : mR} (h : LRw Y R) (hn : rN R1 = rN R) (hs : rS R1 = rS R) (e9 : Y1 9 0 = Y 9 0) (e4 : Y1 4 = Y 4) : LRw Y1 R1 := ⟨by rw [e9, hn]; exact h.1, fun r hr => by rw [e4, hs]; exact h.2 r (by omega)⟩
theorem LPw.mk {F : Nat → Int32} {al : Nat → Bool} {R : mR} (hP : LPw F al R) {k : Nat} (hk : al k = false) : LPw (mwF F k) (nu al k true) R := by
  refine ⟨fun r j hr hj => ?_, fun r j hr hj => ?_, fun i hi => ?_⟩
  · have hb := hP.1 r j hr hj
    have hn : rM R r j ≠ k := fun e => by have := hP.2.1 r j hr hj; rw [e, hk] at this; cases this
    exact ⟨(mk_a (by omega) (by omega) (by omega)).trans hb.1, (mk_a (by omega) (by omega) (by omega)).trans hb.2⟩
  · by_cases c : rM R r j = k
    · rw [c, nu_s]
    · rw [nu_n c]; exact hP.2.1 r j hr hj
  · by_cases c : i = k
    · right; rw [c]; exact mk_4
    · rw [nu_n c] at hi
      exact (hP.2.2 i hi).imp id (fun h => (mk_a (by omega) (by omega) (by omega)).trans h)
theorem LPw.gone {F F1 : Nat → Int32} {al : Nat → Bool} {R : mR} {k : Nat} (hP : LPw F al R) (hk : F (6 * k + 4) = -1) (ok : okR R) (h : ∀ i, F1 (6 * i + 4) = F (6 * i + 4) ∧ F1 (6 * i + 5) = F (6 * i + 5)) : LPw F1 (nu al k false) R := by
  have h64 := ok.le
  refine ⟨fun r j hr hj => ⟨(h _).1.trans (hP.1 r j hr hj).1, (h _).2.trans (hP.1 r j hr hj).2⟩, fun r j hr hj => ?_, fun i hi => ?_⟩
  · by_cases c : rM R r j = k
    · have := (hP.1 r j hr hj).1
      rw [c, hk] at this
      exact absurd this.symm (nI_m1 (by omega))
    · rw [nu_n c]; exact hP.2.1 r j hr hj
  · by_cases c : i = k
    · rw [c, nu_s] at hi; cases hi
    · rw [nu_n c] at hi
      exact (hP.2.2 i hi).imp id (fun e => (h i).1.trans e)
set_option maxHeartbeats 4000000 in
set_option maxRecDepth 100000 in
theorem c_L_leave (l : Launch) {D : va_G} {T : Nat → ClassId} {dE mi : Nat} {g : Nat} {Y : Nat → Nat → Int32} {H : Heap} (hL : SL T g Y H) {E : mE} {R : mR} (hE : LE Y E) (hW : LPw (Y 1) (mAl E) R) (ok : okR R) {k r0 j0 z : Nat} (hk : k < 10) (hr : r0 < rN R) (hj : j0 < rZ R r0) (e0 : rM R r0 j0 = k) (hz : rZ R r0 = z + 1) : vx_Met l yL_leave wsL_leave (rmL 1 0 0) (PcE D T dE mi (AS g) H [.int (nI k), .ref (g + 1)]) (QV (AS g) (fun H1 => ∃ Y1, SL T g Y1 H1 ∧ Y1 1 = lvF (Y 1) k (rM R r0 z) ∧ ∀ j, j ≠ 1 → Y1 j = Y j)) (XX (AS g) (XN)) 0 0 (AS g) := by
  refine entry (cc := cL_leave) (maxL := 3) (ret := none) (by decide) rfl (Nat.le_of_ble_eq_true rfl) ?_
  intro p e s m args below meth c hx hb hrt9 hml hown hts hlk hnt hnm hev hS ls hl
  have hown : s.vm.findClass RL = some m.cls := hown
  have hK := hev.1
  have hl : lv_has ls 3 [(0, .int (nI k)), (1, .ref (g + 1))] := hl
  have h64 := ok.le
  have z32 := ok.z hr
  have e4 : Y 1 (6 * k + 4) = nI r0 := by rw [← e0]; exact (hW.1 r0 j0 hr hj).1
  have q10 : rM R r0 z < 10 := hE.2.2.2.2.1 _ (hW.2.1 r0 z hr (by omega))
  refine lv_aload_n hx hb dL_leave_0 rfl (lv_at hl 1 rfl) ?_
  refine lv_bipush (v := nI 6) hx hb dL_leave_1 (by decide) ?_
  refine lv_iload_n hx hb dL_leave_3 rfl (lv_at hl 0 rfl) ?_
  refine y_imul hx hb dL_leave_4 ?_
  refine lv_iconst (v := nI 4) hx hb dL_leave_5 (by decide) ?_
  refine y_iadd hx hb dL_leave_6 ?_
  refine n_ld1 (i := (6 * k) + 4) hx hb hK hL (by omega) dL_leave_7 ?_
  refine x_top (y := (nI r0)) (e4) ?_
  refine lv_aload_n hx hb dL_leave_8 rfl (lv_at hl 1 rfl) ?_
  refine lv_bipush (v := nI 6) hx hb dL_leave_9 (by decide) ?_
  refine lv_iload_n hx hb dL_leave_11 rfl (lv_at hl 0 rfl) ?_
  refine y_imul hx hb dL_leave_12 ?_
  refine lv_iconst (v := nI 4) hx hb dL_leave_13 (by decide) ?_
  refine y_iadd hx hb dL_leave_14 ?_
  refine n_ld1 (i := (6 * k) + 4) hx hb hK hL (by omega) dL_leave_15 ?_
  refine x_top (y := (nI r0)) (e4) ?_
  refine lv_aload_n hx hb dL_leave_16 rfl (lv_at hl 1 rfl) ?_
  refine k_ip (k_S (As := [.int (nI r0), .ref (g + 1)]) (rest := [.int (nI r0)]) ⟨hx, hb, hml, hown, hts⟩ hev hS (c_L_many l hL (nI r0)) (va_cwS 2 hts gL_leave_L_many rfl rfl rfl (by decide +kernel) ⟨Nat.le_of_ble_eq_true rfl, Nat.le_of_ble_eq_true rfl⟩) rfl hl.1 (Nat.le_of_ble_eq_true rfl) dL_leave_17 (Nat.le_of_ble_eq_true rfl) (Nat.le_of_ble_eq_true rfl)) hS hnt hlk (fun _ _ h _ => h.elim) (Nat.le_of_ble_eq_true rfl) (Nat.le_of_ble_eq_true rfl) (fun rq1_ H1 locs1 hP hz1 hS => ?_)
  refine W.widen (k := 0) (n := 0) (Nat.le_refl _) (Nat.le_refl _) ?_
  have hL : SL T g Y H1 := by rw [hP.1]; exact hL
  have er := hP.2
  refine x_top (y := (nI (rZ R r0))) (by rw [er]; exact congrArg nI (hW.many ok hE.1 hE.2.2.2.2.1 hr)) ?_
  refine lv_iconst (v := nI 1) hx hb dL_leave_20 (by decide) ?_
  refine y_isub hx hb (by omega) dL_leave_21 ?_
  refine x_top (y := (nI z)) (by rw [hz]; rfl) ?_
  refine lv_aload_n hx hb dL_leave_22 rfl (lv_at hl 1 rfl) ?_
  refine k_ip (k_S (As := [.int (nI r0), .int (nI z), .ref (g + 1)]) (rest := []) ⟨hx, hb, hml, hown, hts⟩ hev hS (c_L_at l hL (nI r0) (nI z)) (va_cwS 3 hts gL_leave_L_at rfl rfl rfl (by decide +kernel) ⟨Nat.le_of_ble_eq_true rfl, Nat.le_of_ble_eq_true rfl⟩) rfl hl.1 (Nat.le_of_ble_eq_true rfl) dL_leave_23 (Nat.le_of_ble_eq_true rfl) (Nat.le_of_ble_eq_true rfl)) hS hnt hlk (fun _ _ h _ => h.elim) (Nat.le_of_ble_eq_true rfl) (Nat.le_of_ble_eq_true rfl) (fun rq2_ H2 locs2 hP hz2 hS => ?_)
  refine W.widen (k := 0) (n := 0) (Nat.le_refl _) (Nat.le_refl _) ?_
  have hL : SL T g Y H2 := by rw [hP.1]; exact hL
  obtain ⟨-, o9, eo, ho⟩ := hP
  refine x_top (y := (nI (rM R r0 z))) (by rw [eo, hW.at ok hE.1 hE.2.2.2.2.1 hr (by omega) ho]; rfl) ?_
  refine lv_istore_n (lv' := [(2, .int (nI (rM R r0 z))), (0, .int (nI k)), (1, .ref (g + 1))]) hx hb dL_leave_26 rfl hl (by decide) rfl (fun ls hl => ?_)
  refine lv_aload_n hx hb dL_leave_27 rfl (lv_at hl 2 rfl) ?_
  refine lv_bipush (v := nI 6) hx hb dL_leave_28 (by decide) ?_
  refine lv_iload_n hx hb dL_leave_30 rfl (lv_at hl 0 rfl) ?_
  refine y_imul hx hb dL_leave_31 ?_
  refine lv_iconst (v := nI 5) hx hb dL_leave_32 (by decide) ?_
  refine y_iadd hx hb dL_leave_33 ?_
  refine lv_aload_n hx hb dL_leave_34 rfl (lv_at hl 2 rfl) ?_
  refine lv_bipush (v := nI 6) hx hb dL_leave_35 (by decide) ?_
  refine lv_iload_n hx hb dL_leave_37 rfl (lv_at hl 1 rfl) ?_
  refine y_imul hx hb dL_leave_38 ?_
  refine lv_iconst (v := nI 5) hx hb dL_leave_39 (by decide) ?_
  refine y_iadd hx hb dL_leave_40 ?_
  refine n_ld1 (i := (6 * k) + 5) hx hb hK hL (by omega) dL_leave_41 ?_
  refine n_st1 (i := (6 * (rM R r0 z)) + 5) (v := (Y 1 ((6 * k) + 5))) hx hb hK hS hL (fun _ h => h) (by omega) dL_leave_42 (fun H3 locs3 hL hz3 hq3 hS => ?_)
  refine lv_aload_n hx hb dL_leave_43 rfl (lv_at hl 2 rfl) ?_
  refine lv_bipush (v := nI 6) hx hb dL_leave_44 (by decide) ?_
  refine lv_iload_n hx hb dL_leave_46 rfl (lv_at hl 1 rfl) ?_
  refine y_imul hx hb dL_leave_47 ?_
  refine lv_iconst (v := nI 4) hx hb dL_leave_48 (by decide) ?_
  refine y_iadd hx hb dL_leave_49 ?_
  refine lv_iconst (v := -1) hx hb dL_leave_50 (by decide) ?_
  refine n_st1 (i := (6 * k) + 4) (v := ((-1))) hx hb hK hS hL (fun _ h => h) (by omega) dL_leave_51 (fun H4 locs4 hL hz4 hq4 hS => ?_)
  exact r_v hx hb hrt9 hlk hS (Nat.le_of_ble_eq_true rfl) (Nat.le_of_ble_eq_true rfl) dL_leave_52 (⟨_, hL, rfl, fun j hj => by simp only [up2, if_neg hj]⟩)
set_option maxHeartbeats 4000000 in
set_option maxRecDepth 100000 in
theorem c_L_enter (l : Launch) {D : va_G} {T : Nat → ClassId} {dE mi : Nat} {g : Nat} {Y : Nat → Nat → Int32} {H : Heap} (hL : SL T g Y H) {R : mR} (hw : LRw Y R) (ok : okR R) {k d z : Nat} (hk : k < 10) (hd : d < 64) (hz : cnt (inRow (Y 1) (nI (row R d))) 10 = z) : vx_Met l yL_enter wsL_enter (rmL 1 0 0) (PcE D T dE mi (AS g) H [.int (nI k), .int (nI d), .ref (g + 1), .ref (g + 4), .ref (g + 9)]) (QV (AS g) (fun H1 => ∃ Y1, SL T g Y1 H1 ∧ LRw Y1 (rowEns R d) ∧ Y1 1 = enF (Y 1) k d (row R d) z ∧ (∀ j, j ≠ 1 → j ≠ 4 → j ≠ 9 → Y1 j = Y j) ∧ ∀ i, i ≠ 0 → Y1 9 i = Y 9 i)) (XX (AS g) (XN)) 0 0 (AS g) := by
  refine entry (cc := cL_enter) (maxL := 7) (ret := none) (by decide) rfl (Nat.le_of_ble_eq_true rfl) ?_
  intro p e s m args below meth c hx hb hrt9 hml hown hts hlk hnt hnm hev hS ls hl
  have hown : s.vm.findClass RL = some m.cls := hown
  have hK := hev.1
  have hl : lv_has ls 7 [(0, .int (nI k)), (1, .int (nI d)), (2, .ref (g + 1)), (3, .ref (g + 4)), (4, .ref (g + 9))] := hl
  refine lv_iload_n hx hb dL_enter_0 rfl (lv_at hl 1 rfl) ?_
  refine lv_aload_n hx hb dL_enter_1 rfl (lv_at hl 3 rfl) ?_
  refine lv_aload hx hb dL_enter_2 (lv_at hl 4 rfl) ?_
  refine k_ip (k_S (As := [.int (nI d), .ref (g + 4), .ref (g + 9)]) (rest := []) ⟨hx, hb, hml, hown, hts⟩ hev hS (c_L_row l hL hw ok hd) (va_cwS 3 hts gL_enter_L_row rfl rfl rfl (by decide +kernel) ⟨Nat.le_of_ble_eq_true rfl, Nat.le_of_ble_eq_true rfl⟩) rfl hl.1 (Nat.le_of_ble_eq_true rfl) dL_enter_4 (Nat.le_of_ble_eq_true rfl) (Nat.le_of_ble_eq_true rfl)) hS hnt hlk (fun _ _ h _ => h.elim) (Nat.le_of_ble_eq_true rfl) (Nat.le_of_ble_eq_true rfl) (fun rq1_ H1 locs1 hP hz1 hS => ?_)
  refine W.widen (k := 0) (n := 0) (Nat.le_refl _) (Nat.le_refl _) ?_
  obtain ⟨Y5, hL, hw5, er, hj5, h95⟩ := hP
  refine x_top (y := (nI (row R d))) (er) ?_
  refine lv_istore (lv' := [(5, .int (nI (row R d))), (0, .int (nI k)), (1, .int (nI d)), (2, .ref (g + 1)), (3, .ref (g + 4)), (4, .ref (g + 9))]) hx hb dL_enter_7 hl (by decide) rfl (fun ls hl => ?_)
  refine lv_iload hx hb dL_enter_9 (lv_at hl 0 rfl) ?_
  refine lv_aload_n hx hb dL_enter_11 rfl (lv_at hl 3 rfl) ?_
  refine k_ip (k_S (As := [.int (nI (row R d)), .ref (g + 1)]) (rest := []) ⟨hx, hb, hml, hown, hts⟩ hev hS (c_L_many l hL (nI (row R d))) (va_cwS 2 hts gL_enter_L_many rfl rfl rfl (by decide +kernel) ⟨Nat.le_of_ble_eq_true rfl, Nat.le_of_ble_eq_true rfl⟩) rfl hl.1 (Nat.le_of_ble_eq_true rfl) dL_enter_12 (Nat.le_of_ble_eq_true rfl) (Nat.le_of_ble_eq_true rfl)) hS hnt hlk (fun _ _ h _ => h.elim) (Nat.le_of_ble_eq_true rfl) (Nat.le_of_ble_eq_true rfl) (fun rq2_ H2 locs2 hP hz2 hS => ?_)
  refine W.widen (k := 0) (n := 0) (Nat.le_refl _) (Nat.le_refl _) ?_
  have hL : SL T g Y5 H2 := by rw [hP.1]; exact hL
  have er := hP.2
  refine x_top (y := (nI z)) (by rw [er, hj5 1 (by decide) (by decide)]; exact congrArg nI hz) ?_
  refine lv_istore (lv' := [(6, .int (nI z)), (5, .int (nI (row R d))), (0, .int (nI k)), (1, .int (nI d)), (2, .ref (g + 1)), (3, .ref (g + 4)), (4, .ref (g + 9))]) hx hb dL_enter_15 hl (by decide) rfl (fun ls hl => ?_)
  refine lv_aload_n hx hb dL_enter_17 rfl (lv_at hl 4 rfl) ?_
  refine lv_bipush (v := nI 6) hx hb dL_enter_18 (by decide) ?_
  refine lv_iload_n hx hb dL_enter_20 rfl (lv_at hl 2 rfl) ?_
  refine y_imul hx hb dL_enter_21 ?_
  refine lv_iconst (v := nI 2) hx hb dL_enter_22 (by decide) ?_
  refine y_iadd hx hb dL_enter_23 ?_
  refine lv_iload_n hx hb dL_enter_24 rfl (lv_at hl 3 rfl) ?_
  refine n_st1 (i := (6 * k) + 2) (v := (nI d)) hx hb hK hS hL (fun _ h => h) (by omega) dL_enter_25 (fun H3 locs3 hL hz3 hq3 hS => ?_)
  refine lv_aload_n hx hb dL_enter_26 rfl (lv_at hl 4 rfl) ?_
  refine lv_bipush (v := nI 6) hx hb dL_enter_27 (by decide) ?_
  refine lv_iload_n hx hb dL_enter_29 rfl (lv_at hl 2 rfl) ?_
  refine y_imul hx hb dL_enter_30 ?_
  refine lv_iconst (v := nI 4) hx hb dL_enter_31 (by decide) ?_
  refine y_iadd hx hb dL_enter_32 ?_
  refine lv_iload hx hb dL_enter_33 (lv_at hl 1 rfl) ?_
  refine n_st1 (i := (6 * k) + 4) (v := (nI (row R d))) hx hb hK hS hL (fun _ h => h) (by omega) dL_enter_35 (fun H4 locs4 hL hz4 hq4 hS => ?_)
  refine lv_aload_n hx hb dL_enter_36 rfl (lv_at hl 4 rfl) ?_
  refine lv_bipush (v := nI 6) hx hb dL_enter_37 (by decide) ?_
  refine lv_iload_n hx hb dL_enter_39 rfl (lv_at hl 2 rfl) ?_
  refine y_imul hx hb dL_enter_40 ?_
  refine lv_iconst (v := nI 5) hx hb dL_enter_41 (by decide) ?_
  refine y_iadd hx hb dL_enter_42 ?_
  refine lv_iload hx hb dL_enter_43 (lv_at hl 0 rfl) ?_
  refine n_st1 (i := (6 * k) + 5) (v := (nI z)) hx hb hK hS hL (fun _ h => h) (by omega) dL_enter_45 (fun H5 locs5 hL hz5 hq5 hS => ?_)
  exact r_v hx hb hrt9 hlk hS (Nat.le_of_ble_eq_true rfl) (Nat.le_of_ble_eq_true rfl) dL_enter_46 (⟨_, hL, hw5, by show enF (Y5 1) k d (row R d) z = _; rw [hj5 1 (by decide) (by decide)], fun j h1 h4 h9 => by simp only [up2, if_neg h1]; exact hj5 j h4 h9, h95⟩)
set_option maxHeartbeats 4000000 in
set_option maxRecDepth 100000 in
theorem c_L_make (l : Launch) {D : va_G} {T : Nat → ClassId} {dE mi : Nat} {g : Nat} {Y : Nat → Nat → Int32} {H : Heap} (hL : SL T g Y H) {E : mE} {R : mR} (hT : LTw Y E R) (iR : InvR E R) {k : Nat} (hf : free E = k) (hk : k < 10) : vx_Met l yL_make wsL_make (rmL 2 0 0) (PcE D T dE mi (AS g) H [.ref (g + 1), .ref (g + 4), .ref (g + 9)]) (QI (AS g) (fun r H1 => r = nI k ∧ ∃ Y1, SL T g Y1 H1 ∧ LTw Y1 (makesE E k) (rowAdd R 0 k) ∧ (∀ j, j ≠ 1 → j ≠ 4 → j ≠ 9 → Y1 j = Y j) ∧ ∀ i, i ≠ 0 → Y1 9 i = Y 9 i)) (XX (AS g) (XN)) 0 0 (AS g) := by
  refine entry (cc := cL_make) (maxL := 4) (ret := (some .int)) (by decide) rfl (Nat.le_of_ble_eq_true rfl) ?_
  intro p e s m args below meth c hx hb hrt9 hml hown hts hlk hnt hnm hev hS ls hl
  have hown : s.vm.findClass RL = some m.cls := hown
  have hK := hev.1
  have hl : lv_has ls 4 [(0, .ref (g + 1)), (1, .ref (g + 4)), (2, .ref (g + 9))] := hl
  have ok := okOf hT.1 iR
  have hkf : mAl E k = false := by rw [← hf]; exact free_al (by omega)
  refine lv_iconst (v := nI 0) hx hb dL_make_0 (by decide) ?_
  refine lv_istore_n (lv' := [(3, .int (nI 0)), (0, .ref (g + 1)), (1, .ref (g + 4)), (2, .ref (g + 9))]) hx hb dL_make_1 rfl hl (by decide) rfl (fun ls hl => ?_)
  have loop2 : ∀ (n : Nat) (i : Nat), 10 - i < n → (i ≤ k) → (∀ j, j < i → mAl E j = true) → ∀ (ls : Array Slot), lv_has ls 4 [(3, .int (nI i)), (0, .ref (g + 1)), (1, .ref (g + 4)), (2, .ref (g + 9))] → W p l e (rmL 2 0 0) s m args below meth c H [] (0) (0) (vx_MQ below (QI (AS g) (fun r H1 => r = nI k ∧ ∃ Y1, SL T g Y1 H1 ∧ LTw Y1 (makesE E k) (rowAdd R 0 k) ∧ (∀ j, j ≠ 1 → j ≠ 4 → j ≠ 9 → Y1 j = Y j) ∧ ∀ i, i ≠ 0 → Y1 9 i = Y 9 i)) (XX (AS g) (XN)) args s 0 0 (AS g)) (F0 m 2 ls []) := by
    intro n
    induction n with
    | zero => intro i hfuel; exact absurd hfuel (Nat.not_lt_zero _)
    | succ n ih2 =>
      intro i hfuel hi hal ls hl
      refine lv_aload_n hx hb dL_make_2 rfl (lv_at hl 1 rfl) ?_
      refine lv_bipush (v := nI 6) hx hb dL_make_3 (by decide) ?_
      refine lv_iload_n hx hb dL_make_5 rfl (lv_at hl 0 rfl) ?_
      refine y_imul hx hb dL_make_6 ?_
      refine n_ld1 (i := 6 * i) hx hb hK hL (by omega) dL_make_7 ?_
      refine x_top (y := (bI (mAl E i))) (hT.1.1 i (by omega)) ?_
      refine lv_iconst (v := nI 1) hx hb dL_make_8 (by decide) ?_
      refine lv_icmp_ne (tgt := 18) hx hb dL_make_9 (by decide) (fun c9 => ?_) (fun c9 => ?_)
      · have c0 := bI_n1 c9
        have hik : i = k := by rw [← hf]; exact (free_is (by omega) hal (Or.inr c0)).symm
        subst hik
        have hM := hT.2.2.mk c0
        have ha9 : ∀ j, j < 10 → mwF (Y 1) i (6 * j) = bI (nu (mAl E) i true j) := fun j hj => by
          by_cases c : j = i
          · rw [c, mk_0, nu_s]; rfl
          · rw [mk_a (by omega) (by omega) (by omega), nu_n c]; exact hT.1.1 j hj
        have h10 : ∀ j, nu (mAl E) i true j = true → j < 10 := fun j hj => by
          by_cases c : j = i
          · omega
          · rw [nu_n c] at hj; exact hT.1.2.2.2.2.1 j hj
        have hen := ens_row ok (show 0 < 64 by decide)
        refine lv_aload_n hx hb dL_make_18 rfl (lv_at hl 1 rfl) ?_
        refine lv_bipush (v := nI 6) hx hb dL_make_19 (by decide) ?_
        refine lv_iload_n hx hb dL_make_21 rfl (lv_at hl 0 rfl) ?_
        refine y_imul hx hb dL_make_22 ?_
        refine lv_iconst (v := nI 1) hx hb dL_make_23 (by decide) ?_
        refine n_st1 (i := 6 * i) (v := (nI 1)) hx hb hK hS hL (fun _ h => h) (by omega) dL_make_24 (fun H1 locs1 hL hz1 hq1 hS => ?_)
        refine lv_aload_n hx hb dL_make_25 rfl (lv_at hl 1 rfl) ?_
        refine lv_bipush (v := nI 6) hx hb dL_make_26 (by decide) ?_
        refine lv_iload_n hx hb dL_make_28 rfl (lv_at hl 0 rfl) ?_
        refine y_imul hx hb dL_make_29 ?_
        refine lv_iconst (v := nI 3) hx hb dL_make_30 (by decide) ?_
        refine y_iadd hx hb dL_make_31 ?_
        refine lv_iconst (v := -1) hx hb dL_make_32 (by decide) ?_
        refine n_st1 (i := (6 * i) + 3) (v := ((-1))) hx hb hK hS hL (fun _ h => h) (by omega) dL_make_33 (fun H2 locs2 hL hz2 hq2 hS => ?_)
        refine lv_aload_n hx hb dL_make_34 rfl (lv_at hl 1 rfl) ?_
        refine lv_bipush (v := nI 6) hx hb dL_make_35 (by decide) ?_
        refine lv_iload_n hx hb dL_make_37 rfl (lv_at hl 0 rfl) ?_
        refine y_imul hx hb dL_make_38 ?_
        refine lv_iconst (v := nI 4) hx hb dL_make_39 (by decide) ?_
        refine y_iadd hx hb dL_make_40 ?_
        refine lv_iconst (v := -1) hx hb dL_make_41 (by decide) ?_
        refine n_st1 (i := (6 * i) + 4) (v := ((-1))) hx hb hK hS hL (fun _ h => h) (by omega) dL_make_42 (fun H3 locs3 hL hz3 hq3 hS => ?_)
        refine lv_iload_n hx hb dL_make_43 rfl (lv_at hl 0 rfl) ?_
        refine lv_iconst (v := nI 0) hx hb dL_make_44 (by decide) ?_
        refine lv_aload_n hx hb dL_make_45 rfl (lv_at hl 1 rfl) ?_
        refine lv_aload_n hx hb dL_make_46 rfl (lv_at hl 2 rfl) ?_
        refine lv_aload_n hx hb dL_make_47 rfl (lv_at hl 3 rfl) ?_
        refine k_vp (k_S (As := [.int (nI i), .int (nI 0), .ref (g + 1), .ref (g + 4), .ref (g + 9)]) (rest := []) ⟨hx, hb, hml, hown, hts⟩ hev hS (c_L_enter l hL (R := R) (hT.2.1.cong rfl rfl rfl rfl) ok hk (by decide) (show cnt (inRow (mwF (Y 1) i) (nI (row R 0))) 10 = rZ (rowEns R 0) (row R 0) from (hM.ens 0).many hen.1 ha9 h10 hen.2.1)) (va_cwS 5 hts gL_make_L_enter rfl rfl rfl (by decide +kernel) ⟨Nat.le_of_ble_eq_true rfl, Nat.le_of_ble_eq_true rfl⟩) rfl hl.1 (Nat.le_of_ble_eq_true rfl) dL_make_48 (Nat.le_of_ble_eq_true rfl) (Nat.le_of_ble_eq_true rfl)) hS hnt hlk (fun _ _ h _ => h.elim) (Nat.le_of_ble_eq_true rfl) (Nat.le_of_ble_eq_true rfl) (fun H4 locs4 hP hz4 hS => ?_)
        refine W.widen (k := 0) (n := 0) (Nat.le_refl _) (Nat.le_refl _) ?_
        obtain ⟨Y5, hL, hw5, e15, hj5, h95⟩ := hP
        have e15 : Y5 1 = enF (mwF (Y 1) i) i 0 (row R 0) (rZ (rowEns R 0) (row R 0)) := e15
        refine lv_iload_n hx hb dL_make_51 rfl (lv_at hl 0 rfl) ?_
        have hLE5 : LE Y5 (makesE E i) := hT.1.makes hk (fun j hj => by
          rw [e15]
          refine ⟨?_, ?_, ?_, ?_⟩
          · rw [en_a (by omega) (by omega) (by omega)]
            by_cases c : j = i
            · rw [if_pos c, c, mk_0]
            · rw [if_neg c, mk_a (by omega) (by omega) (by omega)]
          · rw [en_a (by omega) (by omega) (by omega), mk_a (by omega) (by omega) (by omega)]
          · by_cases c : j = i
            · rw [if_pos c, c, en_2]
            · rw [if_neg c, en_a (by omega) (by omega) (by omega), mk_a (by omega) (by omega) (by omega)]
          · rw [en_a (by omega) (by omega) (by omega)]
            by_cases c : j = i
            · rw [if_pos c, c, mk_3]
            · rw [if_neg c, mk_a (by omega) (by omega) (by omega)]) (hj5 2 (by decide) (by decide) (by decide)) (hj5 3 (by decide) (by decide) (by decide))
        have hLP5 : LPw (Y5 1) (mAl (makesE E i)) (rowAdd R 0 i) := by
          rw [e15]
          exact (hM.ens 0).push hen.2.1 mk_4 nu_s hen.1.le
        exact r_i hx hb hrt9 hlk hS (Nat.le_of_ble_eq_true rfl) (Nat.le_of_ble_eq_true rfl) dL_make_52 (⟨rfl, Y5, hL, ⟨hLE5, hw5, hLP5⟩, fun j h1 h4 h9 => (hj5 j h1 h4 h9).trans (by simp only [up2, if_neg h1]), h95⟩)
      · have c1 := bI_e1 c9
        have hne : i ≠ k := fun e9 => by rw [e9, hkf] at c1; cases c1
        refine lv_iinc (v := (nI (i + 1))) (lv' := [(3, .int (nI (i + 1))), (0, .ref (g + 1)), (1, .ref (g + 4)), (2, .ref (g + 9))]) hx hb dL_make_12 hl (k := 0) rfl (nI_inc _) (by decide) rfl (fun ls hl => ?_)
        refine lv_goto (tgt := 2) hx hb dL_make_15 (by decide) ?_
        exact ih2 (i + 1) (by omega) (by omega) (fun j hj => by rcases Nat.lt_succ_iff_lt_or_eq.mp hj with q | q; exact hal j q; rw [q]; exact c1) ls (lv_sub hl [0, 1, 2, 3] rfl)
  exact loop2 (10 - 0 + 1) 0 (Nat.lt_succ_self _) (by omega) (fun j hj => absurd hj (Nat.not_lt_zero j)) ls (lv_sub hl [0, 1, 2, 3] rfl)
set_option maxHeartbeats 4000000 in
set_option maxRecDepth 100000 in
theorem c_L_change (l : Launch) {D : va_G} {T : Nat → ClassId} {dE mi : Nat} {g : Nat} {Y : Nat → Nat → Int32} {H : Heap} (hL : SL T g Y H) {E : mE} {R : mR} (hT : LTw Y E R) (iR : InvR E R) {k d : Nat} (hal : mAl E k = true) (hd : d < 64) : vx_Met l yL_change wsL_change (rmL 2 0 0) (PcE D T dE mi (AS g) H [.int (nI k), .int (nI d), .ref (g + 1), .ref (g + 4), .ref (g + 9)]) (QV (AS g) (fun H1 => ∃ Y1, SL T g Y1 H1 ∧ LTw Y1 (becomesE E k d) (becomesR E R k d) ∧ (∀ j, j ≠ 1 → j ≠ 4 → j ≠ 9 → Y1 j = Y j) ∧ ∀ i, i ≠ 0 → Y1 9 i = Y 9 i)) (XX (AS g) (XN)) 0 0 (AS g) := by
  refine entry (cc := cL_change) (maxL := 5) (ret := none) (by decide) rfl (Nat.le_of_ble_eq_true rfl) ?_
  intro p e s m args below meth c hx hb hrt9 hml hown hts hlk hnt hnm hev hS ls hl
  have hown : s.vm.findClass RL = some m.cls := hown
  have hK := hev.1
  have hl : lv_has ls 5 [(0, .int (nI k)), (1, .int (nI d)), (2, .ref (g + 1)), (3, .ref (g + 4)), (4, .ref (g + 9))] := hl
  have ok := okOf hT.1 iR
  have hk := hT.1.2.2.2.2.1 k hal
  obtain ⟨j0, z, hr, hj, e0, hz⟩ := stands iR hal
  have ok1 := (ok.del hr hj e0).1
  have hen := ens_row ok1 hd
  have hM := hT.2.2.leave ok hr hj e0 hz rfl
  have q10 : rM R (row R (mKd E k)) z < 10 := hT.1.2.2.2.2.1 _ (hT.2.2.2.1 _ z hr (by omega))
  refine lv_iload_n hx hb dL_change_0 rfl (lv_at hl 0 rfl) ?_
  refine lv_aload_n hx hb dL_change_1 rfl (lv_at hl 2 rfl) ?_
  refine k_vp (k_S (As := [.int (nI k), .ref (g + 1)]) (rest := []) ⟨hx, hb, hml, hown, hts⟩ hev hS (c_L_leave l hL hT.1 hT.2.2 ok hk hr hj e0 hz) (va_cwS 2 hts gL_change_L_leave rfl rfl rfl (by decide +kernel) ⟨Nat.le_of_ble_eq_true rfl, Nat.le_of_ble_eq_true rfl⟩) rfl hl.1 (Nat.le_of_ble_eq_true rfl) dL_change_2 (Nat.le_of_ble_eq_true rfl) (Nat.le_of_ble_eq_true rfl)) hS hnt hlk (fun _ _ h _ => h.elim) (Nat.le_of_ble_eq_true rfl) (Nat.le_of_ble_eq_true rfl) (fun H1 locs1 hP hz1 hS => ?_)
  refine W.widen (k := 0) (n := 0) (Nat.le_refl _) (Nat.le_refl _) ?_
  obtain ⟨Y5, hL, e15, hj5⟩ := hP
  refine lv_iload_n hx hb dL_change_5 rfl (lv_at hl 0 rfl) ?_
  refine lv_iload_n hx hb dL_change_6 rfl (lv_at hl 1 rfl) ?_
  refine lv_aload_n hx hb dL_change_7 rfl (lv_at hl 2 rfl) ?_
  refine lv_aload_n hx hb dL_change_8 rfl (lv_at hl 3 rfl) ?_
  refine lv_aload hx hb dL_change_9 (lv_at hl 4 rfl) ?_
  refine k_vp (k_S (As := [.int (nI k), .int (nI d), .ref (g + 1), .ref (g + 4), .ref (g + 9)]) (rest := []) ⟨hx, hb, hml, hown, hts⟩ hev hS (c_L_enter l hL (R := rowDel R (row R (mKd E k)) k) (hT.2.1.cong rfl rfl (by rw [hj5 9 (by decide)]) (hj5 4 (by decide))) ok1 hk hd (show cnt (inRow (Y5 1) (nI (row (rowDel R (row R (mKd E k)) k) d))) 10 = rZ (rowEns (rowDel R (row R (mKd E k)) k) d) (row (rowDel R (row R (mKd E k)) k) d) from by rw [e15]; exact (hM.ens d).many hen.1 (fun j hj => (lv_a (by omega) (by omega)).trans (hT.1.1 j hj)) hT.1.2.2.2.2.1 hen.2.1)) (va_cwS 5 hts gL_change_L_enter rfl rfl rfl (by decide +kernel) ⟨Nat.le_of_ble_eq_true rfl, Nat.le_of_ble_eq_true rfl⟩) rfl hl.1 (Nat.le_of_ble_eq_true rfl) dL_change_11 (Nat.le_of_ble_eq_true rfl) (Nat.le_of_ble_eq_true rfl)) hS hnt hlk (fun _ _ h _ => h.elim) (Nat.le_of_ble_eq_true rfl) (Nat.le_of_ble_eq_true rfl) (fun H2 locs2 hP hz2 hS => ?_)
  refine W.widen (k := 0) (n := 0) (Nat.le_refl _) (Nat.le_refl _) ?_
  obtain ⟨Y6, hL, hw6, e16, hj6, h96⟩ := hP
  rw [e15] at e16
  refine r_v hx hb hrt9 hlk hS (Nat.le_of_ble_eq_true rfl) (Nat.le_of_ble_eq_true rfl) dL_change_14 (⟨Y6, hL, ⟨hT.1.becomes (k := k) (d := d) (fun j hj => ?_) ((hj6 2 (by decide) (by decide) (by decide)).trans (hj5 2 (by decide))) ((hj6 3 (by decide) (by decide) (by decide)).trans (hj5 3 (by decide))), hw6, ?_⟩, fun j h1 h4 h9 => (hj6 j h1 h4 h9).trans (hj5 j h1), fun i hi => (h96 i hi).trans (by rw [hj5 9 (by decide)])⟩)
  · rw [e16]
    refine ⟨?_, ?_, ?_, ?_⟩
    · rw [en_a (by omega) (by omega) (by omega), lv_a (by omega) (by omega)]
    · rw [en_a (by omega) (by omega) (by omega), lv_a (by omega) (by omega)]
    · by_cases c : j = k
      · rw [if_pos c, c, en_2]
      · rw [if_neg c, en_a (by omega) (by omega) (by omega), lv_a (by omega) (by omega)]
    · rw [en_a (by omega) (by omega) (by omega), lv_a (by omega) (by omega)]
  · rw [e16]
    exact (hM.ens d).push hen.2.1 upd_s hal hen.1.le

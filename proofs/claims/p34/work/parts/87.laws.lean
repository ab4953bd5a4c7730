theorem look_d {E : mE} {k : Nat} (hk : k < 32) (ha : mAl E k = false) (hb : ∀ j, mHad E j ≤ 900000) : look E (handle E k) = none := by
  have h1 := hb k
  unfold handle
  rw [look_nI (b := 900000) (by omega) (by decide) hb, if_neg (fun z => by rw [show (k + 32 * mHad E k) % 32 = k by omega, ha] at z; cases z.1)]
theorem look_p {E : mE} {k : Nat} (hk : k < 32) (hb : ∀ j, mHad E j ≤ 900000) : look E (handle E k + nI 32) = none := by
  have h1 := hb k
  unfold handle
  rw [nI_add, look_nI (b := 900000) (by omega) (by decide) hb, if_neg (fun z => by rw [show (k + 32 * mHad E k + 32) % 32 = k by omega] at z; have := z.2; omega)]
theorem isK_nI {i : Nat} (h : i < 6) : isK (nI i) = true := decide_eq_true ⟨nI_pos' (by omega), nI_lt h (by decide)⟩
theorem ask_k {M : mSt} {x kd : Int32} {sl : Nat} (hl : look (sE M) x = some sl) (hk : isK kd = false) : ask M x kd = (2, 0, 0) := by
  unfold ask; rw [hl]; exact if_pos hk
theorem ask_h {M : mSt} {x : Int32} {sl i : Nat} (hl : look (sE M) x = some sl) (hi : i < 6) (hb : bitS (mKd (sE M) sl) i = false) : ask M x (nI i) = (3, 0, 0) := by
  unfold ask; rw [hl]; show (if isK (nI i) = false then _ else _) = _
  rw [if_neg (by rw [isK_nI hi]; decide), ix_nI (by omega), if_pos hb]
theorem ask_i {M : mSt} {x : Int32} {sl i : Nat} (hl : look (sE M) x = some sl) (hi : i < 6) (hb : bitS (mKd (sE M) sl) i = true) : ask M x (nI i) = (0, sl, i) := by
  unfold ask; rw [hl]; show (if isK (nI i) = false then _ else _) = _
  rw [if_neg (by rw [isK_nI hi]; decide), ix_nI (by omega), if_neg (by rw [hb]; decide)]
theorem chl_10 {E : mE} {s : Nat} (h : ∀ n, 10 ≤ n → ¬ mPar E n = some s) : ∀ m, 10 ≤ m → chl E s m = chl E s 10 := by
  intro m
  induction m with
  | zero => intro hm; exact absurd hm (by decide)
  | succ i ih =>
    intro hm
    by_cases c : 10 ≤ i
    · rw [chl_f (h i c)]; exact ih c
    · rw [show i + 1 = 10 by omega]
theorem Inv.had {b : Nat} {M : mSt} (h : Inv b M) : ∀ j, mHad (sE M) j ≤ 900000 := fun j => Nat.le_trans (h.2.2.2.2.2.2 j) h.2.2.2.2.2.1
set_option maxHeartbeats 4000000 in
set_option maxRecDepth 100000 in
theorem c_L_same (l : Launch) {D : va_G} {T : Nat → ClassId} {dE mi : Nat} (hst : l.stackTraces = false) {A : Nat → Prop} {g b0 bd : Nat} {Y : Nat → Nat → Int32} {M : mSt} {H : Heap} (hPK : PK D T dE b0 A g Y M H) (hI : Inv bd M) (hT : LTw Y (sE M) (sR M)) (ht : Y 9 1 = sT M) : vx_Met l yL_same wsL_same (rmL 11 410 2460) (PcE D T dE mi A H [.ref b0, .ref (g + 1), .ref (g + 2), .ref (g + 3), .ref (g + 9)]) (QI A (fun r H1 => r = nI 1 ∧ PK D T dE b0 A g Y M H1)) (XX A (XN)) 410 2460 A := by
  refine entry (cc := cL_same) (maxL := 10) (ret := (some .boolean)) (by decide) rfl (Nat.le_of_ble_eq_true rfl) ?_
  intro p e s m args below meth c hx hb hrt9 hml hown hts hlk hnt hnm hev hS ls hl
  have hown : s.vm.findClass RL = some m.cls := hown
  have hK := hev.1
  have hl : lv_has ls 10 [(0, .ref b0), (1, .ref (g + 1)), (2, .ref (g + 2)), (3, .ref (g + 3)), (4, .ref (g + 9))] := hl
  have hL := hPK.sl
  have hh := hI.had
  have iE := hI.1
  have h10 := hT.1.2.2.2.2.1
  refine lv_iconst (v := nI 0) hx hb dL_same_0 (by decide) ?_
  refine lv_istore (lv' := [(5, .int (nI 0)), (0, .ref b0), (1, .ref (g + 1)), (2, .ref (g + 2)), (3, .ref (g + 3)), (4, .ref (g + 9))]) hx hb dL_same_1 hl (by decide) rfl (fun ls hl => ?_)
  refine W.widen (k := 41 * 0) (n := 246 * 0) (by omega) (by omega) ?_
  refine lv_iconst (v := nI 0) hx hb dL_same_3 (by decide) ?_
  refine lv_istore (lv' := [(6, .int (nI 0)), (5, .int (nI 0)), (0, .ref b0), (1, .ref (g + 1)), (2, .ref (g + 2)), (3, .ref (g + 3)), (4, .ref (g + 9))]) hx hb dL_same_4 hl (by decide) rfl (fun ls hl => ?_)
  have loop6 : ∀ (n : Nat) (k9 : Nat) (H9 : Heap) (locs9 : List Loc), 10 - k9 < n → (k9 ≤ 10) → (PK D T dE b0 A g Y M H9) → (va_S A s.heap H9 locs9) → ∀ (ls : Array Slot), lv_has ls 10 [(6, .int (nI k9)), (5, .int (nI (cnt (mAl (sE M)) k9))), (0, .ref b0), (1, .ref (g + 1)), (2, .ref (g + 2)), (3, .ref (g + 3)), (4, .ref (g + 9))] → W p l e (rmL 11 410 2460) s m args below meth c H9 locs9 (41 * k9) (246 * k9) (vx_MQ below (QI A (fun r H1 => r = nI 1 ∧ PK D T dE b0 A g Y M H1)) (XX A (XN)) args s 410 2460 A) (F0 m 6 ls []) := by
    intro n
    induction n with
    | zero => intro k9 H9 locs9 hfuel; exact absurd hfuel (Nat.not_lt_zero _)
    | succ n ih6 =>
      intro k9 H9 locs9 hfuel hk9 hPK hS ls hl
      have hL := hPK.sl
      refine lv_iload hx hb dL_same_6 (lv_at hl 0 rfl) ?_
      refine lv_bipush (v := nI 10) hx hb dL_same_8 (by decide) ?_
      refine y_icmp_ge hx hb (by omega) (Nat.le_of_ble_eq_true rfl) (tgt := 276) dL_same_10 (by decide) (fun c10 => ?_) (fun c10 => ?_)
      · have hl : lv_has ls 10 [(6, .int (nI k9)), (5, .int (nI (cnt (mAl (sE M)) 10))), (0, .ref b0), (1, .ref (g + 1)), (2, .ref (g + 2)), (3, .ref (g + 3)), (4, .ref (g + 9))] := by
          have e9 : (nI (cnt (mAl (sE M)) k9)) = (nI (cnt (mAl (sE M)) 10)) := by rw [show k9 = 10 by omega]
          first
            | (rw [← e9]; exact hl)
            | (rw [e9] at hl; exact hl)
        have hc10 := cnt_le (mAl (sE M)) 10
        refine lv_aload_n hx hb dL_same_276 rfl (lv_at hl 2 rfl) ?_
        refine k_ip (k_V (As := []) (rest := []) ⟨hx, hb, hml, hown, hts⟩ hev hS (w_entities l hst hPK hI) (cwV 0 hts gL_same_X6_entities rfl rfl rfl (by decide +kernel) ⟨Nat.le_of_ble_eq_true rfl, Nat.le_of_ble_eq_true rfl⟩) (pk_recv hK hPK) rfl hl.1 (Nat.le_of_ble_eq_true rfl) dL_same_277 (by show _ ≤ (410 : Nat); omega) (by show _ ≤ (2460 : Nat); omega)) hS hnt hlk (fun _ _ h _ => h.elim) (by show _ ≤ (410 : Nat); omega) (by show _ ≤ (2460 : Nat); omega) (fun rq1_ H1 locs1 hP hz1 hS => ?_)
        refine W.widen (k := 41 * k9) (n := 246 * k9) (Nat.le_refl _) (Nat.le_refl _) ?_
        have er := hP.1
        have hPK : PK D T dE b0 A g Y M H1 := hP.2
        have hL := hPK.sl
        refine x_top (y := (nI (cnt (mAl (sE M)) 10))) (by rw [er]; exact congrArg nI (cnt_10 (fun k hk => by cases z : mAl (sE M) k; rfl; have := h10 k z; omega) 32 (by decide))) ?_
        refine lv_iload hx hb dL_same_280 (lv_at hl 1 rfl) ?_
        refine y_icmp_ne hx hb (by omega) (by omega) (tgt := 300) dL_same_282 (by decide) (fun c282 => ?_) (fun c282 => ?_)
        · exact absurd rfl c282
        · refine lv_aload_n hx hb dL_same_285 rfl (lv_at hl 2 rfl) ?_
          refine k_ip (k_V (As := []) (rest := []) ⟨hx, hb, hml, hown, hts⟩ hev hS (w_tick l hst hPK hI) (cwV 0 hts gL_same_X6_tick rfl rfl rfl (by decide +kernel) ⟨Nat.le_of_ble_eq_true rfl, Nat.le_of_ble_eq_true rfl⟩) (pk_recv hK hPK) rfl hl.1 (Nat.le_of_ble_eq_true rfl) dL_same_286 (by show _ ≤ (410 : Nat); omega) (by show _ ≤ (2460 : Nat); omega)) hS hnt hlk (fun _ _ h _ => h.elim) (by show _ ≤ (410 : Nat); omega) (by show _ ≤ (2460 : Nat); omega) (fun rq2_ H2 locs2 hP hz2 hS => ?_)
          refine W.widen (k := 41 * k9) (n := 246 * k9) (Nat.le_refl _) (Nat.le_refl _) ?_
          have er := hP.1
          have hPK : PK D T dE b0 A g Y M H2 := hP.2
          have hL := hPK.sl
          refine x_top (y := (sT M)) (er) ?_
          refine lv_aload hx hb dL_same_289 (lv_at hl 6 rfl) ?_
          refine lv_iconst (v := nI 1) hx hb dL_same_291 (by decide) ?_
          refine n_ld9 (i := 1) hx hb hK hL (by omega) dL_same_292 ?_
          refine x_top (y := (sT M)) (ht) ?_
          refine lv_icmp_ne (tgt := 300) hx hb dL_same_293 (by decide) (fun c293 => ?_) (fun c293 => ?_)
          · exact absurd rfl c293
          · refine lv_iconst (v := nI 1) hx hb dL_same_296 (by decide) ?_
            refine lv_goto (tgt := 301) hx hb dL_same_297 (by decide) ?_
            exact r_z hx hb hrt9 hlk hS (by omega) (by omega) dL_same_301 rfl (⟨rfl, hPK⟩)
      · rcases Bool.eq_false_or_eq_true (mAl (sE M) k9) with hal | hal
        · have hlk9 := look_h (show k9 < 32 by omega) hal hh
          have hk64 := iE.1 k9
          refine lv_iload hx hb dL_same_13 (lv_at hl 0 rfl) ?_
          refine lv_aload_n hx hb dL_same_15 rfl (lv_at hl 3 rfl) ?_
          refine k_ip (k_S (As := [.int (nI k9), .ref (g + 1)]) (rest := []) ⟨hx, hb, hml, hown, hts⟩ hev hS (c_L_handle l hL hT.1 c10) (va_cwS 2 hts gL_same_L_handle rfl rfl rfl (by decide +kernel) ⟨Nat.le_of_ble_eq_true rfl, Nat.le_of_ble_eq_true rfl⟩) rfl hl.1 (Nat.le_of_ble_eq_true rfl) dL_same_16 (by show _ ≤ (410 : Nat); omega) (by show _ ≤ (2460 : Nat); omega)) hS hnt hlk (fun _ _ h _ => h.elim) (by show _ ≤ (410 : Nat); omega) (by show _ ≤ (2460 : Nat); omega) (fun rq3_ H3 locs3 hP hz3 hS => ?_)
          refine W.widen (k := 41 * k9) (n := 246 * k9) (Nat.le_refl _) (Nat.le_refl _) ?_
          have hPK : PK D T dE b0 A g Y M H3 := by rw [hP.1]; exact hPK
          have hL := hPK.sl
          have er := hP.2
          refine x_top (y := (handle (sE M) k9)) (er) ?_
          refine lv_istore (lv' := [(7, .int (handle (sE M) k9)), (6, .int (nI k9)), (5, .int (nI (cnt (mAl (sE M)) k9))), (0, .ref b0), (1, .ref (g + 1)), (2, .ref (g + 2)), (3, .ref (g + 3)), (4, .ref (g + 9))]) hx hb dL_same_19 hl (by decide) rfl (fun ls hl => ?_)
          refine lv_aload_n hx hb dL_same_21 rfl (lv_at hl 3 rfl) ?_
          refine lv_iload hx hb dL_same_22 (lv_at hl 0 rfl) ?_
          refine k_ip (k_V (As := [.int (handle (sE M) k9)]) (rest := []) ⟨hx, hb, hml, hown, hts⟩ hev hS (w_isThere l hst hPK hI (handle (sE M) k9)) (cwV 1 hts gL_same_X6_isThere rfl rfl rfl (by decide +kernel) ⟨Nat.le_of_ble_eq_true rfl, Nat.le_of_ble_eq_true rfl⟩) (pk_recv hK hPK) rfl hl.1 (Nat.le_of_ble_eq_true rfl) dL_same_24 (by show _ ≤ (410 : Nat); omega) (by show _ ≤ (2460 : Nat); omega)) hS hnt hlk (fun _ _ h _ => h.elim) (by show _ ≤ (410 : Nat); omega) (by show _ ≤ (2460 : Nat); omega) (fun rq4_ H4 locs4 hP hz4 hS => ?_)
          refine W.widen (k := 41 * k9) (n := 246 * k9) (Nat.le_refl _) (Nat.le_refl _) ?_
          have er := hP.1
          have hPK : PK D T dE b0 A g Y M H4 := hP.2
          have hL := hPK.sl
          refine x_top (y := (nI 1)) (by rw [er]; show bI (look (sE M) (handle (sE M) k9)).isSome = _; rw [hlk9]; rfl) ?_
          refine lv_aload_n hx hb dL_same_27 rfl (lv_at hl 4 rfl) ?_
          refine lv_bipush (v := nI 6) hx hb dL_same_28 (by decide) ?_
          refine lv_iload hx hb dL_same_30 (lv_at hl 1 rfl) ?_
          refine y_imul hx hb dL_same_32 ?_
          refine n_ld1 (i := 6 * k9) hx hb hK hL (by omega) dL_same_33 ?_
          refine x_top (y := (nI 1)) (by rw [hT.1.1 k9 c10, hal]; rfl) ?_
          refine lv_iconst (v := nI 1) hx hb dL_same_34 (by decide) ?_
          refine y_icmp_ne hx hb (by decide) (by decide) (tgt := 42) dL_same_35 (by decide) (fun c35 => ?_) (fun c35 => ?_)
          · exact absurd c35 (by decide)
          · refine lv_iconst (v := nI 1) hx hb dL_same_38 (by decide) ?_
            refine lv_goto (tgt := 43) hx hb dL_same_39 (by decide) ?_
            refine y_icmp_eq hx hb (by decide) (by decide) (tgt := 48) dL_same_43 (by decide) (fun c43 => ?_) (fun c43 => ?_)
            · refine lv_aload_n hx hb dL_same_48 rfl (lv_at hl 4 rfl) ?_
              refine lv_bipush (v := nI 6) hx hb dL_same_49 (by decide) ?_
              refine lv_iload hx hb dL_same_51 (lv_at hl 1 rfl) ?_
              refine y_imul hx hb dL_same_53 ?_
              refine n_ld1 (i := 6 * k9) hx hb hK hL (by omega) dL_same_54 ?_
              refine x_top (y := (nI 1)) (by rw [hT.1.1 k9 c10, hal]; rfl) ?_
              refine y_if_ne hx hb (by decide) (tgt := 61) dL_same_55 (by decide) (fun c55 => ?_) (fun c55 => ?_)
              · refine lv_iconst (v := nI 0) hx hb dL_same_61 (by decide) ?_
                refine lv_istore (lv' := [(8, .int (nI 0)), (7, .int (handle (sE M) k9)), (6, .int (nI k9)), (5, .int (nI (cnt (mAl (sE M)) k9))), (0, .ref b0), (1, .ref (g + 1)), (2, .ref (g + 2)), (3, .ref (g + 3)), (4, .ref (g + 9))]) hx hb dL_same_62 hl (by decide) rfl (fun ls hl => ?_)
                refine lv_iconst (v := nI 0) hx hb dL_same_64 (by decide) ?_
                refine lv_istore (lv' := [(9, .int (nI 0)), (8, .int (nI 0)), (7, .int (handle (sE M) k9)), (6, .int (nI k9)), (5, .int (nI (cnt (mAl (sE M)) k9))), (0, .ref b0), (1, .ref (g + 1)), (2, .ref (g + 2)), (3, .ref (g + 3)), (4, .ref (g + 9))]) hx hb dL_same_65 hl (by decide) rfl (fun ls hl => ?_)
                have loop67 : ∀ (n : Nat) (i : Nat), 10 - i < n → (i ≤ 10) → ∀ (ls : Array Slot), lv_has ls 10 [(9, .int (nI i)), (8, .int (chl (sE M) k9 i)), (7, .int (handle (sE M) k9)), (6, .int (nI k9)), (5, .int (nI (cnt (mAl (sE M)) k9))), (0, .ref b0), (1, .ref (g + 1)), (2, .ref (g + 2)), (3, .ref (g + 3)), (4, .ref (g + 9))] → W p l e (rmL 11 410 2460) s m args below meth c H4 locs4 (41 * k9) (246 * k9) (vx_MQ below (QI A (fun r H1 => r = nI 1 ∧ PK D T dE b0 A g Y M H1)) (XX A (XN)) args s 410 2460 A) (F0 m 67 ls []) := by
                  intro n
                  induction n with
                  | zero => intro i hfuel; exact absurd hfuel (Nat.not_lt_zero _)
                  | succ n ih67 =>
                    intro i hfuel hi ls hl
                    refine lv_iload hx hb dL_same_67 (lv_at hl 0 rfl) ?_
                    refine lv_bipush (v := nI 10) hx hb dL_same_69 (by decide) ?_
                    refine y_icmp_ge hx hb (by omega) (Nat.le_of_ble_eq_true rfl) (tgt := 118) dL_same_71 (by decide) (fun c71 => ?_) (fun c71 => ?_)
                    · have hl : lv_has ls 10 [(9, .int (nI i)), (8, .int (chl (sE M) k9 32)), (7, .int (handle (sE M) k9)), (6, .int (nI k9)), (5, .int (nI (cnt (mAl (sE M)) k9))), (0, .ref b0), (1, .ref (g + 1)), (2, .ref (g + 2)), (3, .ref (g + 3)), (4, .ref (g + 9))] := by
                        have e9 : (chl (sE M) k9 i) = (chl (sE M) k9 32) := by rw [show i = 10 by omega]; exact (chl_10 (fun n hn e => by cases z : mAl (sE M) n; rw [(iE.2.2.1 n z).2] at e; cases e; have := h10 n z; omega) 32 (by decide)).symm
                        first
                          | (rw [← e9]; exact hl)
                          | (rw [e9] at hl; exact hl)
                      refine lv_aload_n hx hb dL_same_118 rfl (lv_at hl 5 rfl) ?_
                      refine lv_iload hx hb dL_same_119 (lv_at hl 2 rfl) ?_
                      refine k_ip (k_V (As := [.int (handle (sE M) k9)]) (rest := []) ⟨hx, hb, hml, hown, hts⟩ hev hS (w_kinds l hst hPK hI (handle (sE M) k9) (by rw [kin_0 hlk9]; rfl)) (cwV 1 hts gL_same_X6_kinds rfl rfl rfl (by decide +kernel) ⟨Nat.le_of_ble_eq_true rfl, Nat.le_of_ble_eq_true rfl⟩) (pk_recv hK hPK) rfl hl.1 (Nat.le_of_ble_eq_true rfl) dL_same_121 (by show _ ≤ (410 : Nat); omega) (by show _ ≤ (2460 : Nat); omega)) hS hnt hlk (fun _ _ h _ => h.elim) (by show _ ≤ (410 : Nat); omega) (by show _ ≤ (2460 : Nat); omega) (fun rq5_ H5 locs5 hP hz5 hS => ?_)
                      rw [kin_0 hlk9] at hP
                      have er := hP.1
                      have hPK : PK D T dE b0 A g Y M H5 := hP.2
                      have hL := hPK.sl
                      refine x_top (y := (nI (mKd (sE M) k9))) (er) ?_
                      refine lv_aload_n hx hb dL_same_124 rfl (lv_at hl 6 rfl) ?_
                      refine lv_bipush (v := nI 6) hx hb dL_same_125 (by decide) ?_
                      refine lv_iload hx hb dL_same_127 (lv_at hl 3 rfl) ?_
                      refine y_imul hx hb dL_same_129 ?_
                      refine lv_iconst (v := nI 2) hx hb dL_same_130 (by decide) ?_
                      refine y_iadd hx hb dL_same_131 ?_
                      refine n_ld1 (i := (6 * k9) + 2) hx hb hK hL (by omega) dL_same_132 ?_
                      refine x_top (y := (nI (mKd (sE M) k9))) (hT.1.2.2.1 k9 c10 hal) ?_
                      refine y_icmp_ne hx hb (by omega) (by omega) (tgt := 172) dL_same_133 (by decide) (fun c133 => ?_) (fun c133 => ?_)
                      · exact absurd rfl c133
                      · refine lv_aload_n hx hb dL_same_136 rfl (lv_at hl 5 rfl) ?_
                        refine lv_iload hx hb dL_same_137 (lv_at hl 2 rfl) ?_
                        refine k_ip (k_V (As := [.int (handle (sE M) k9)]) (rest := []) ⟨hx, hb, hml, hown, hts⟩ hev hS (w_children l hst hPK hI (handle (sE M) k9) (by rw [chl_0 hlk9]; rfl)) (cwV 1 hts gL_same_X6_children rfl rfl rfl (by decide +kernel) ⟨Nat.le_of_ble_eq_true rfl, Nat.le_of_ble_eq_true rfl⟩) (pk_recv hK hPK) rfl hl.1 (Nat.le_of_ble_eq_true rfl) dL_same_139 (by show _ ≤ (410 : Nat); omega) (by show _ ≤ (2460 : Nat); omega)) hS hnt hlk (fun _ _ h _ => h.elim) (by show _ ≤ (410 : Nat); omega) (by show _ ≤ (2460 : Nat); omega) (fun rq6_ H6 locs6 hP hz6 hS => ?_)
                        rw [chl_0 hlk9] at hP
                        have er := hP.1
                        have hPK : PK D T dE b0 A g Y M H6 := hP.2
                        have hL := hPK.sl
                        refine x_top (y := (chl (sE M) k9 32)) (er) ?_
                        refine lv_iload hx hb dL_same_142 (lv_at hl 1 rfl) ?_
                        refine lv_icmp_ne (tgt := 172) hx hb dL_same_144 (by decide) (fun c144 => ?_) (fun c144 => ?_)
                        · exact absurd rfl c144
                        · refine lv_aload_n hx hb dL_same_147 rfl (lv_at hl 5 rfl) ?_
                          refine lv_iload hx hb dL_same_148 (lv_at hl 2 rfl) ?_
                          refine lv_bipush (v := nI 32) hx hb dL_same_150 (by decide) ?_
                          refine lv_iadd hx hb dL_same_152 ?_
                          refine k_ip (k_V (As := [.int ((handle (sE M) k9) + (nI 32))]) (rest := []) ⟨hx, hb, hml, hown, hts⟩ hev hS (w_isThere l hst hPK hI (handle (sE M) k9 + nI 32)) (cwV 1 hts gL_same_X6_isThere rfl rfl rfl (by decide +kernel) ⟨Nat.le_of_ble_eq_true rfl, Nat.le_of_ble_eq_true rfl⟩) (pk_recv hK hPK) rfl hl.1 (Nat.le_of_ble_eq_true rfl) dL_same_153 (by show _ ≤ (410 : Nat); omega) (by show _ ≤ (2460 : Nat); omega)) hS hnt hlk (fun _ _ h _ => h.elim) (by show _ ≤ (410 : Nat); omega) (by show _ ≤ (2460 : Nat); omega) (fun rq7_ H7 locs7 hP hz7 hS => ?_)
                          refine W.widen (k := 41 * k9 + 1 + 1) (n := 246 * k9 + 6 + 6) (Nat.le_refl _) (Nat.le_refl _) ?_
                          have er := hP.1
                          have hPK : PK D T dE b0 A g Y M H7 := hP.2
                          have hL := hPK.sl
                          refine x_top (y := (nI 0)) (by rw [er]; show bI (look (sE M) (handle (sE M) k9 + nI 32)).isSome = _; rw [look_p (by omega) hh]; rfl) ?_
                          refine y_if_ne hx hb (by decide) (tgt := 172) dL_same_156 (by decide) (fun c156 => ?_) (fun c156 => ?_)
                          · exact absurd c156 (by decide)
                          · refine lv_aload_n hx hb dL_same_159 rfl (lv_at hl 5 rfl) ?_
                            refine lv_iconst (v := nI 5) hx hb dL_same_160 (by decide) ?_
                            refine lv_iload hx hb dL_same_161 (lv_at hl 2 rfl) ?_
                            refine lv_bipush (v := nI 6) hx hb dL_same_163 (by decide) ?_
                            refine k_ip (k_SW (As := [.ref b0, .int (nI 5), .int (handle (sE M) k9), .int (nI 6)]) (rest := []) ⟨hx, hb, hml, hown, hts⟩ hev hS (r_L5 l hst hPK hI (handle (sE M) k9) (nI 6) (w := 2) (by rw [set_e (by rw [ask_k hlk9 (by decide)]; decide), ask_k hlk9 (by decide)]; show ¬ (2 : Nat) = 0; decide) (by rw [set_e (by rw [ask_k hlk9 (by decide)]; decide), ask_k hlk9 (by decide)]; rfl)) (vx_cwSW 4 hts gL_same_L_refused rfl rfl rfl (by decide +kernel) ⟨Nat.le_of_ble_eq_true rfl, Nat.le_of_ble_eq_true rfl⟩) rfl hl.1 (Nat.le_of_ble_eq_true rfl) dL_same_165 (by show _ ≤ (410 : Nat); omega) (by show _ ≤ (2460 : Nat); omega)) hS hnt hlk (fun _ _ h _ => h.elim) (by show _ ≤ (410 : Nat); omega) (by show _ ≤ (2460 : Nat); omega) (fun rq8_ H8 locs8 hP hz8 hS => ?_)
                            have er := hP.1
                            have hPK : PK D T dE b0 A g Y M H8 := hP.2
                            have hL := hPK.sl
                            refine x_top (y := (nI 2)) (er) ?_
                            refine lv_iconst (v := nI 2) hx hb dL_same_168 (by decide) ?_
                            refine y_icmp_eq hx hb (by decide) (by decide) (tgt := 174) dL_same_169 (by decide) (fun c169 => ?_) (fun c169 => ?_)
                            · refine W.widen (k := 41 * k9 + 5 + 6 * 0) (n := 246 * k9 + 30 + 36 * 0) (by omega) (by omega) ?_
                              refine lv_iconst (v := nI 0) hx hb dL_same_174 (by decide) ?_
                              refine lv_istore (lv' := [(9, .int (nI 0)), (8, .int (chl (sE M) k9 32)), (7, .int (handle (sE M) k9)), (6, .int (nI k9)), (5, .int (nI (cnt (mAl (sE M)) k9))), (0, .ref b0), (1, .ref (g + 1)), (2, .ref (g + 2)), (3, .ref (g + 3)), (4, .ref (g + 9))]) hx hb dL_same_175 hl (by decide) rfl (fun ls hl => ?_)
                              have loop177 : ∀ (n : Nat) (i7 : Nat) (H7 : Heap) (locs7 : List Loc), 6 - i7 < n → (i7 ≤ 6) → (PK D T dE b0 A g Y M H7) → (va_S A s.heap H7 locs7) → ∀ (ls : Array Slot), lv_has ls 10 [(9, .int (nI i7)), (7, .int (handle (sE M) k9)), (6, .int (nI k9)), (5, .int (nI (cnt (mAl (sE M)) k9))), (0, .ref b0), (1, .ref (g + 1)), (2, .ref (g + 2)), (3, .ref (g + 3)), (4, .ref (g + 9))] → W p l e (rmL 11 410 2460) s m args below meth c H7 locs7 (41 * k9 + 5 + 6 * i7) (246 * k9 + 30 + 36 * i7) (vx_MQ below (QI A (fun r H1 => r = nI 1 ∧ PK D T dE b0 A g Y M H1)) (XX A (XN)) args s 410 2460 A) (F0 m 177 ls []) := by
                                intro n
                                induction n with
                                | zero => intro i7 H7 locs7 hfuel; exact absurd hfuel (Nat.not_lt_zero _)
                                | succ n ih177 =>
                                  intro i7 H7 locs7 hfuel hi7 hPK hS ls hl
                                  have hL := hPK.sl
                                  refine lv_iload hx hb dL_same_177 (lv_at hl 0 rfl) ?_
                                  refine lv_bipush (v := nI 6) hx hb dL_same_179 (by decide) ?_
                                  refine y_icmp_ge hx hb (by omega) (Nat.le_of_ble_eq_true rfl) (tgt := 267) dL_same_181 (by decide) (fun c181 => ?_) (fun c181 => ?_)
                                  · refine lv_iinc (v := (nI (cnt (mAl (sE M)) k9 + 1))) (lv' := [(5, .int (nI (cnt (mAl (sE M)) k9 + 1))), (9, .int (nI i7)), (7, .int (handle (sE M) k9)), (6, .int (nI k9)), (0, .ref b0), (1, .ref (g + 1)), (2, .ref (g + 2)), (3, .ref (g + 3)), (4, .ref (g + 9))]) hx hb dL_same_267 hl (k := 3) rfl (nI_inc _) (by decide) rfl (fun ls hl => ?_)
                                    have hl : lv_has ls 10 [(5, .int (nI (cnt (mAl (sE M)) (k9 + 1)))), (9, .int (nI i7)), (7, .int (handle (sE M) k9)), (6, .int (nI k9)), (0, .ref b0), (1, .ref (g + 1)), (2, .ref (g + 2)), (3, .ref (g + 3)), (4, .ref (g + 9))] := by
                                      have e9 : (nI (cnt (mAl (sE M)) k9 + 1)) = (nI (cnt (mAl (sE M)) (k9 + 1))) := congrArg nI (cnt_t hal).symm
                                      first
                                        | (rw [← e9]; exact hl)
                                        | (rw [e9] at hl; exact hl)
                                    refine W.widen (k := 41 * (k9 + 1)) (n := 246 * (k9 + 1)) (by omega) (by omega) ?_
                                    refine lv_iinc (v := (nI (k9 + 1))) (lv' := [(6, .int (nI (k9 + 1))), (5, .int (nI (cnt (mAl (sE M)) (k9 + 1)))), (9, .int (nI i7)), (7, .int (handle (sE M) k9)), (0, .ref b0), (1, .ref (g + 1)), (2, .ref (g + 2)), (3, .ref (g + 3)), (4, .ref (g + 9))]) hx hb dL_same_270 hl (k := 3) rfl (nI_inc _) (by decide) rfl (fun ls hl => ?_)
                                    refine lv_goto (tgt := 6) hx hb dL_same_273 (by decide) ?_
                                    exact ih6 (k9 + 1) H7 locs7 (by omega) (by omega) hPK hS ls (lv_sub hl [0, 1, 4, 5, 6, 7, 8] rfl)
                                  · refine lv_aload_n hx hb dL_same_184 rfl (lv_at hl 5 rfl) ?_
                                    refine lv_bipush (v := nI 6) hx hb dL_same_185 (by decide) ?_
                                    refine lv_iload hx hb dL_same_187 (lv_at hl 2 rfl) ?_
                                    refine y_imul hx hb dL_same_189 ?_
                                    refine lv_iconst (v := nI 2) hx hb dL_same_190 (by decide) ?_
                                    refine y_iadd hx hb dL_same_191 ?_
                                    refine n_ld1 (i := (6 * k9) + 2) hx hb hK hL (by omega) dL_same_192 ?_
                                    refine x_top (y := (nI (mKd (sE M) k9))) (hT.1.2.2.1 k9 c10 hal) ?_
                                    refine lv_iload hx hb dL_same_193 (lv_at hl 0 rfl) ?_
                                    refine lv_ishr hx hb dL_same_195 ?_
                                    refine lv_iconst (v := nI 1) hx hb dL_same_196 (by decide) ?_
                                    refine lv_iand hx hb dL_same_197 ?_
                                    refine x_top (y := (bI (bitS (mKd (sE M) k9) i7))) (bit_val _ hk64 i7 c181) ?_
                                    refine y_bif_ne hx hb (tgt := 217) dL_same_198 (by decide) (fun c198 => ?_) (fun c198 => ?_)
                                    · refine lv_aload_n hx hb dL_same_217 rfl (lv_at hl 4 rfl) ?_
                                      refine lv_iload hx hb dL_same_218 (lv_at hl 1 rfl) ?_
                                      refine lv_iload hx hb dL_same_220 (lv_at hl 0 rfl) ?_
                                      refine k_ip (k_V (As := [.int (handle (sE M) k9), .int (nI i7)]) (rest := []) ⟨hx, hb, hml, hown, hts⟩ hev hS (w_value l hst hPK hI (handle (sE M) k9) (nI i7) (by rw [val_0 (ask_i hlk9 c181 c198)]; rfl)) (cwV 2 hts gL_same_X6_value rfl rfl rfl (by decide +kernel) ⟨Nat.le_of_ble_eq_true rfl, Nat.le_of_ble_eq_true rfl⟩) (pk_recv hK hPK) rfl hl.1 (Nat.le_of_ble_eq_true rfl) dL_same_222 (by show _ ≤ (410 : Nat); omega) (by show _ ≤ (2460 : Nat); omega)) hS hnt hlk (fun _ _ h _ => h.elim) (by show _ ≤ (410 : Nat); omega) (by show _ ≤ (2460 : Nat); omega) (fun rq9_ H9 locs9 hP hz9 hS => ?_)
                                      rw [val_0 (ask_i hlk9 c181 c198)] at hP
                                      have er := hP.1
                                      have hPK : PK D T dE b0 A g Y M H9 := hP.2
                                      have hL := hPK.sl
                                      refine x_top (y := (mVal (sE M) k9 i7)) (er) ?_
                                      refine lv_aload_n hx hb dL_same_225 rfl (lv_at hl 6 rfl) ?_
                                      refine lv_bipush (v := nI 6) hx hb dL_same_226 (by decide) ?_
                                      refine lv_iload hx hb dL_same_228 (lv_at hl 2 rfl) ?_
                                      refine y_imul hx hb dL_same_230 ?_
                                      refine lv_iload hx hb dL_same_231 (lv_at hl 0 rfl) ?_
                                      refine y_iadd hx hb dL_same_233 ?_
                                      refine n_ld2 (i := (6 * k9) + i7) hx hb hK hL (by omega) dL_same_234 ?_
                                      refine x_top (y := (mVal (sE M) k9 i7)) (hT.1.2.2.2.2.2.1 k9 i7 c10 c181) ?_
                                      refine lv_icmp_ne (tgt := 259) hx hb dL_same_235 (by decide) (fun c235 => ?_) (fun c235 => ?_)
                                      · exact absurd rfl c235
                                      · refine lv_aload_n hx hb dL_same_238 rfl (lv_at hl 4 rfl) ?_
                                        refine lv_iload hx hb dL_same_239 (lv_at hl 1 rfl) ?_
                                        refine lv_iload hx hb dL_same_241 (lv_at hl 0 rfl) ?_
                                        refine k_ip (k_V (As := [.int (handle (sE M) k9), .int (nI i7)]) (rest := []) ⟨hx, hb, hml, hown, hts⟩ hev hS (w_mark l hst hPK hI (handle (sE M) k9) (nI i7) (by rw [mrk_0 (ask_i hlk9 c181 c198)]; rfl)) (cwV 2 hts gL_same_X6_mark rfl rfl rfl (by decide +kernel) ⟨Nat.le_of_ble_eq_true rfl, Nat.le_of_ble_eq_true rfl⟩) (pk_recv hK hPK) rfl hl.1 (Nat.le_of_ble_eq_true rfl) dL_same_243 (by show _ ≤ (410 : Nat); omega) (by show _ ≤ (2460 : Nat); omega)) hS hnt hlk (fun _ _ h _ => h.elim) (by show _ ≤ (410 : Nat); omega) (by show _ ≤ (2460 : Nat); omega) (fun rq10_ H10 locs10 hP hz10 hS => ?_)
                                        rw [mrk_0 (ask_i hlk9 c181 c198)] at hP
                                        have er := hP.1
                                        have hPK : PK D T dE b0 A g Y M H10 := hP.2
                                        have hL := hPK.sl
                                        refine x_top (y := (mMk (sE M) k9 i7)) (er) ?_
                                        refine lv_aload_n hx hb dL_same_246 rfl (lv_at hl 7 rfl) ?_
                                        refine lv_bipush (v := nI 6) hx hb dL_same_247 (by decide) ?_
                                        refine lv_iload hx hb dL_same_249 (lv_at hl 2 rfl) ?_
                                        refine y_imul hx hb dL_same_251 ?_
                                        refine lv_iload hx hb dL_same_252 (lv_at hl 0 rfl) ?_
                                        refine y_iadd hx hb dL_same_254 ?_
                                        refine n_ld3 (i := (6 * k9) + i7) hx hb hK hL (by omega) dL_same_255 ?_
                                        refine x_top (y := (mMk (sE M) k9 i7)) (hT.1.2.2.2.2.2.2 k9 i7 c10 c181) ?_
                                        refine lv_icmp_eq (tgt := 261) hx hb dL_same_256 (by decide) (fun c256 => ?_) (fun c256 => ?_)
                                        · refine W.widen (k := 41 * k9 + 5 + 6 * (i7 + 1)) (n := 246 * k9 + 30 + 36 * (i7 + 1)) (by omega) (by omega) ?_
                                          refine lv_iinc (v := (nI (i7 + 1))) (lv' := [(9, .int (nI (i7 + 1))), (7, .int (handle (sE M) k9)), (6, .int (nI k9)), (5, .int (nI (cnt (mAl (sE M)) k9))), (0, .ref b0), (1, .ref (g + 1)), (2, .ref (g + 2)), (3, .ref (g + 3)), (4, .ref (g + 9))]) hx hb dL_same_261 hl (k := 0) rfl (nI_inc _) (by decide) rfl (fun ls hl => ?_)
                                          refine lv_goto (tgt := 177) hx hb dL_same_264 (by decide) ?_
                                          exact ih177 (i7 + 1) H10 locs10 (by omega) (by omega) hPK hS ls (lv_sub hl [0, 1, 2, 3, 4, 5, 6, 7, 8] rfl)
                                        · exact absurd rfl c256
                                    · have hb7 := c198
                                      refine lv_aload_n hx hb dL_same_201 rfl (lv_at hl 4 rfl) ?_
                                      refine lv_bipush (v := nI 6) hx hb dL_same_202 (by decide) ?_
                                      refine lv_iload hx hb dL_same_204 (lv_at hl 1 rfl) ?_
                                      refine lv_iload hx hb dL_same_206 (lv_at hl 0 rfl) ?_
                                      refine k_ip (k_SW (As := [.ref b0, .int (nI 6), .int (handle (sE M) k9), .int (nI i7)]) (rest := []) ⟨hx, hb, hml, hown, hts⟩ hev hS (r_L6 l hst hPK hI (handle (sE M) k9) (nI i7) (w := 3) (by rw [val_e (by rw [ask_h hlk9 c181 hb7]; decide), ask_h hlk9 c181 hb7]; show ¬ (3 : Nat) = 0; decide) (by rw [val_e (by rw [ask_h hlk9 c181 hb7]; decide), ask_h hlk9 c181 hb7]; rfl)) (vx_cwSW 4 hts gL_same_L_refused rfl rfl rfl (by decide +kernel) ⟨Nat.le_of_ble_eq_true rfl, Nat.le_of_ble_eq_true rfl⟩) rfl hl.1 (Nat.le_of_ble_eq_true rfl) dL_same_208 (by show _ ≤ (410 : Nat); omega) (by show _ ≤ (2460 : Nat); omega)) hS hnt hlk (fun _ _ h _ => h.elim) (by show _ ≤ (410 : Nat); omega) (by show _ ≤ (2460 : Nat); omega) (fun rq11_ H11 locs11 hP hz11 hS => ?_)
                                      have er := hP.1
                                      have hPK : PK D T dE b0 A g Y M H11 := hP.2
                                      have hL := hPK.sl
                                      refine x_top (y := (nI 3)) (er) ?_
                                      refine lv_iconst (v := nI 3) hx hb dL_same_211 (by decide) ?_
                                      refine y_icmp_eq hx hb (by decide) (by decide) (tgt := 261) dL_same_212 (by decide) (fun c212 => ?_) (fun c212 => ?_)
                                      · refine W.widen (k := 41 * k9 + 5 + 6 * (i7 + 1)) (n := 246 * k9 + 30 + 36 * (i7 + 1)) (by omega) (by omega) ?_
                                        refine lv_iinc (v := (nI (i7 + 1))) (lv' := [(9, .int (nI (i7 + 1))), (7, .int (handle (sE M) k9)), (6, .int (nI k9)), (5, .int (nI (cnt (mAl (sE M)) k9))), (0, .ref b0), (1, .ref (g + 1)), (2, .ref (g + 2)), (3, .ref (g + 3)), (4, .ref (g + 9))]) hx hb dL_same_261 hl (k := 0) rfl (nI_inc _) (by decide) rfl (fun ls hl => ?_)
                                        refine lv_goto (tgt := 177) hx hb dL_same_264 (by decide) ?_
                                        exact ih177 (i7 + 1) H11 locs11 (by omega) (by omega) hPK hS ls (lv_sub hl [0, 1, 2, 3, 4, 5, 6, 7, 8] rfl)
                                      · exact absurd c212 (by decide)
                              exact loop177 (6 - 0 + 1) 0 H8 locs8 (Nat.lt_succ_self _) (by omega) hPK hS ls (lv_sub hl [0, 2, 3, 4, 5, 6, 7, 8, 9] rfl)
                            · exact absurd c169 (by decide)
                    · refine lv_iload hx hb dL_same_74 (lv_at hl 1 rfl) ?_
                      refine lv_aload_n hx hb dL_same_76 rfl (lv_at hl 6 rfl) ?_
                      refine lv_bipush (v := nI 6) hx hb dL_same_77 (by decide) ?_
                      refine lv_iload hx hb dL_same_79 (lv_at hl 0 rfl) ?_
                      refine y_imul hx hb dL_same_81 ?_
                      refine n_ld1 (i := 6 * i) hx hb hK hL (by omega) dL_same_82 ?_
                      refine x_top (y := (bI (mAl (sE M) i))) (hT.1.1 i (by omega)) ?_
                      refine lv_iconst (v := nI 1) hx hb dL_same_83 (by decide) ?_
                      refine lv_icmp_ne (tgt := 108) hx hb dL_same_84 (by decide) (fun c84 => ?_) (fun c84 => ?_)
                      · have hpa : ¬ mPar (sE M) i = some k9 := fun e => by rw [(iE.2.2.1 i (bI_n1 c84)).2] at e; cases e
                        refine lv_iconst (v := nI 0) hx hb dL_same_108 (by decide) ?_
                        refine lv_ior hx hb dL_same_109 ?_
                        refine lv_istore (lv' := [(8, .int ((chl (sE M) k9 i) ||| (nI 0))), (9, .int (nI i)), (7, .int (handle (sE M) k9)), (6, .int (nI k9)), (5, .int (nI (cnt (mAl (sE M)) k9))), (0, .ref b0), (1, .ref (g + 1)), (2, .ref (g + 2)), (3, .ref (g + 3)), (4, .ref (g + 9))]) hx hb dL_same_110 hl (by decide) rfl (fun ls hl => ?_)
                        have hl : lv_has ls 10 [(8, .int (chl (sE M) k9 (i + 1))), (9, .int (nI i)), (7, .int (handle (sE M) k9)), (6, .int (nI k9)), (5, .int (nI (cnt (mAl (sE M)) k9))), (0, .ref b0), (1, .ref (g + 1)), (2, .ref (g + 2)), (3, .ref (g + 3)), (4, .ref (g + 9))] := by
                          have e9 : ((chl (sE M) k9 i) ||| (nI 0)) = (chl (sE M) k9 (i + 1)) := by rw [chl_f hpa]; exact Int32.or_zero
                          first
                            | (rw [← e9]; exact hl)
                            | (rw [e9] at hl; exact hl)
                        refine lv_iinc (v := (nI (i + 1))) (lv' := [(9, .int (nI (i + 1))), (8, .int (chl (sE M) k9 (i + 1))), (7, .int (handle (sE M) k9)), (6, .int (nI k9)), (5, .int (nI (cnt (mAl (sE M)) k9))), (0, .ref b0), (1, .ref (g + 1)), (2, .ref (g + 2)), (3, .ref (g + 3)), (4, .ref (g + 9))]) hx hb dL_same_112 hl (k := 1) rfl (nI_inc _) (by decide) rfl (fun ls hl => ?_)
                        refine lv_goto (tgt := 67) hx hb dL_same_115 (by decide) ?_
                        exact ih67 (i + 1) (by omega) (by omega) ls (lv_sub hl [0, 1, 2, 3, 4, 5, 6, 7, 8, 9] rfl)
                      · have hal8 := bI_e1 c84
                        refine lv_aload_n hx hb dL_same_87 rfl (lv_at hl 6 rfl) ?_
                        refine lv_bipush (v := nI 6) hx hb dL_same_88 (by decide) ?_
                        refine lv_iload hx hb dL_same_90 (lv_at hl 0 rfl) ?_
                        refine y_imul hx hb dL_same_92 ?_
                        refine lv_iconst (v := nI 3) hx hb dL_same_93 (by decide) ?_
                        refine y_iadd hx hb dL_same_94 ?_
                        refine n_ld1 (i := (6 * i) + 3) hx hb hK hL (by omega) dL_same_95 ?_
                        refine x_top (y := (nO (mPar (sE M) i))) (hT.1.2.2.2.1 i (by omega) hal8) ?_
                        refine lv_iload hx hb dL_same_96 (lv_at hl 3 rfl) ?_
                        refine lv_icmp_ne (tgt := 108) hx hb dL_same_98 (by decide) (fun c98 => ?_) (fun c98 => ?_)
                        · have hpa : ¬ mPar (sE M) i = some k9 := fun e => c98 (by rw [e]; rfl)
                          refine lv_iconst (v := nI 0) hx hb dL_same_108 (by decide) ?_
                          refine lv_ior hx hb dL_same_109 ?_
                          refine lv_istore (lv' := [(8, .int ((chl (sE M) k9 i) ||| (nI 0))), (9, .int (nI i)), (7, .int (handle (sE M) k9)), (6, .int (nI k9)), (5, .int (nI (cnt (mAl (sE M)) k9))), (0, .ref b0), (1, .ref (g + 1)), (2, .ref (g + 2)), (3, .ref (g + 3)), (4, .ref (g + 9))]) hx hb dL_same_110 hl (by decide) rfl (fun ls hl => ?_)
                          have hl : lv_has ls 10 [(8, .int (chl (sE M) k9 (i + 1))), (9, .int (nI i)), (7, .int (handle (sE M) k9)), (6, .int (nI k9)), (5, .int (nI (cnt (mAl (sE M)) k9))), (0, .ref b0), (1, .ref (g + 1)), (2, .ref (g + 2)), (3, .ref (g + 3)), (4, .ref (g + 9))] := by
                            have e9 : ((chl (sE M) k9 i) ||| (nI 0)) = (chl (sE M) k9 (i + 1)) := by rw [chl_f hpa]; exact Int32.or_zero
                            first
                              | (rw [← e9]; exact hl)
                              | (rw [e9] at hl; exact hl)
                          refine lv_iinc (v := (nI (i + 1))) (lv' := [(9, .int (nI (i + 1))), (8, .int (chl (sE M) k9 (i + 1))), (7, .int (handle (sE M) k9)), (6, .int (nI k9)), (5, .int (nI (cnt (mAl (sE M)) k9))), (0, .ref b0), (1, .ref (g + 1)), (2, .ref (g + 2)), (3, .ref (g + 3)), (4, .ref (g + 9))]) hx hb dL_same_112 hl (k := 1) rfl (nI_inc _) (by decide) rfl (fun ls hl => ?_)
                          refine lv_goto (tgt := 67) hx hb dL_same_115 (by decide) ?_
                          exact ih67 (i + 1) (by omega) (by omega) ls (lv_sub hl [0, 1, 2, 3, 4, 5, 6, 7, 8, 9] rfl)
                        · have hpa : mPar (sE M) i = some k9 := nO_eq (by omega) (fun q hq => by have := iE.2.1 q (iE.2.2.2.1 i q hq); omega) c98
                          refine lv_iconst (v := nI 1) hx hb dL_same_101 (by decide) ?_
                          refine lv_iload hx hb dL_same_102 (lv_at hl 0 rfl) ?_
                          refine lv_ishl hx hb dL_same_104 ?_
                          refine lv_goto (tgt := 109) hx hb dL_same_105 (by decide) ?_
                          refine lv_ior hx hb dL_same_109 ?_
                          refine lv_istore (lv' := [(8, .int ((chl (sE M) k9 i) ||| ((nI 1) <<< ((nI i) &&& 31)))), (9, .int (nI i)), (7, .int (handle (sE M) k9)), (6, .int (nI k9)), (5, .int (nI (cnt (mAl (sE M)) k9))), (0, .ref b0), (1, .ref (g + 1)), (2, .ref (g + 2)), (3, .ref (g + 3)), (4, .ref (g + 9))]) hx hb dL_same_110 hl (by decide) rfl (fun ls hl => ?_)
                          have hl : lv_has ls 10 [(8, .int (chl (sE M) k9 (i + 1))), (9, .int (nI i)), (7, .int (handle (sE M) k9)), (6, .int (nI k9)), (5, .int (nI (cnt (mAl (sE M)) k9))), (0, .ref b0), (1, .ref (g + 1)), (2, .ref (g + 2)), (3, .ref (g + 3)), (4, .ref (g + 9))] := by
                            have e9 : ((chl (sE M) k9 i) ||| ((nI 1) <<< ((nI i) &&& 31))) = (chl (sE M) k9 (i + 1)) := by rw [chl_t hpa]
                            first
                              | (rw [← e9]; exact hl)
                              | (rw [e9] at hl; exact hl)
                          refine lv_iinc (v := (nI (i + 1))) (lv' := [(9, .int (nI (i + 1))), (8, .int (chl (sE M) k9 (i + 1))), (7, .int (handle (sE M) k9)), (6, .int (nI k9)), (5, .int (nI (cnt (mAl (sE M)) k9))), (0, .ref b0), (1, .ref (g + 1)), (2, .ref (g + 2)), (3, .ref (g + 3)), (4, .ref (g + 9))]) hx hb dL_same_112 hl (k := 1) rfl (nI_inc _) (by decide) rfl (fun ls hl => ?_)
                          refine lv_goto (tgt := 67) hx hb dL_same_115 (by decide) ?_
                          exact ih67 (i + 1) (by omega) (by omega) ls (lv_sub hl [0, 1, 2, 3, 4, 5, 6, 7, 8, 9] rfl)
                exact loop67 (10 - 0 + 1) 0 (Nat.lt_succ_self _) (by omega) ls (lv_sub hl [0, 1, 2, 3, 4, 5, 6, 7, 8, 9] rfl)
              · exact absurd c55 (by decide)
            · exact absurd c43 (by decide)
        · have hlk9 := look_d (show k9 < 32 by omega) hal hh
          refine lv_iload hx hb dL_same_13 (lv_at hl 0 rfl) ?_
          refine lv_aload_n hx hb dL_same_15 rfl (lv_at hl 3 rfl) ?_
          refine k_ip (k_S (As := [.int (nI k9), .ref (g + 1)]) (rest := []) ⟨hx, hb, hml, hown, hts⟩ hev hS (c_L_handle l hL hT.1 c10) (va_cwS 2 hts gL_same_L_handle rfl rfl rfl (by decide +kernel) ⟨Nat.le_of_ble_eq_true rfl, Nat.le_of_ble_eq_true rfl⟩) rfl hl.1 (Nat.le_of_ble_eq_true rfl) dL_same_16 (by show _ ≤ (410 : Nat); omega) (by show _ ≤ (2460 : Nat); omega)) hS hnt hlk (fun _ _ h _ => h.elim) (by show _ ≤ (410 : Nat); omega) (by show _ ≤ (2460 : Nat); omega) (fun rq12_ H12 locs12 hP hz12 hS => ?_)
          refine W.widen (k := 41 * k9) (n := 246 * k9) (Nat.le_refl _) (Nat.le_refl _) ?_
          have hPK : PK D T dE b0 A g Y M H12 := by rw [hP.1]; exact hPK
          have hL := hPK.sl
          have er := hP.2
          refine x_top (y := (handle (sE M) k9)) (er) ?_
          refine lv_istore (lv' := [(7, .int (handle (sE M) k9)), (6, .int (nI k9)), (5, .int (nI (cnt (mAl (sE M)) k9))), (0, .ref b0), (1, .ref (g + 1)), (2, .ref (g + 2)), (3, .ref (g + 3)), (4, .ref (g + 9))]) hx hb dL_same_19 hl (by decide) rfl (fun ls hl => ?_)
          refine lv_aload_n hx hb dL_same_21 rfl (lv_at hl 3 rfl) ?_
          refine lv_iload hx hb dL_same_22 (lv_at hl 0 rfl) ?_
          refine k_ip (k_V (As := [.int (handle (sE M) k9)]) (rest := []) ⟨hx, hb, hml, hown, hts⟩ hev hS (w_isThere l hst hPK hI (handle (sE M) k9)) (cwV 1 hts gL_same_X6_isThere rfl rfl rfl (by decide +kernel) ⟨Nat.le_of_ble_eq_true rfl, Nat.le_of_ble_eq_true rfl⟩) (pk_recv hK hPK) rfl hl.1 (Nat.le_of_ble_eq_true rfl) dL_same_24 (by show _ ≤ (410 : Nat); omega) (by show _ ≤ (2460 : Nat); omega)) hS hnt hlk (fun _ _ h _ => h.elim) (by show _ ≤ (410 : Nat); omega) (by show _ ≤ (2460 : Nat); omega) (fun rq13_ H13 locs13 hP hz13 hS => ?_)
          refine W.widen (k := 41 * k9) (n := 246 * k9) (Nat.le_refl _) (Nat.le_refl _) ?_
          have er := hP.1
          have hPK : PK D T dE b0 A g Y M H13 := hP.2
          have hL := hPK.sl
          refine x_top (y := (nI 0)) (by rw [er]; show bI (look (sE M) (handle (sE M) k9)).isSome = _; rw [hlk9]; rfl) ?_
          refine lv_aload_n hx hb dL_same_27 rfl (lv_at hl 4 rfl) ?_
          refine lv_bipush (v := nI 6) hx hb dL_same_28 (by decide) ?_
          refine lv_iload hx hb dL_same_30 (lv_at hl 1 rfl) ?_
          refine y_imul hx hb dL_same_32 ?_
          refine n_ld1 (i := 6 * k9) hx hb hK hL (by omega) dL_same_33 ?_
          refine x_top (y := (nI 0)) (by rw [hT.1.1 k9 c10, hal]; rfl) ?_
          refine lv_iconst (v := nI 1) hx hb dL_same_34 (by decide) ?_
          refine y_icmp_ne hx hb (by decide) (by decide) (tgt := 42) dL_same_35 (by decide) (fun c35 => ?_) (fun c35 => ?_)
          · refine lv_iconst (v := nI 0) hx hb dL_same_42 (by decide) ?_
            refine y_icmp_eq hx hb (by decide) (by decide) (tgt := 48) dL_same_43 (by decide) (fun c43 => ?_) (fun c43 => ?_)
            · refine lv_aload_n hx hb dL_same_48 rfl (lv_at hl 4 rfl) ?_
              refine lv_bipush (v := nI 6) hx hb dL_same_49 (by decide) ?_
              refine lv_iload hx hb dL_same_51 (lv_at hl 1 rfl) ?_
              refine y_imul hx hb dL_same_53 ?_
              refine n_ld1 (i := 6 * k9) hx hb hK hL (by omega) dL_same_54 ?_
              refine x_top (y := (nI 0)) (by rw [hT.1.1 k9 c10, hal]; rfl) ?_
              refine y_if_ne hx hb (by decide) (tgt := 61) dL_same_55 (by decide) (fun c55 => ?_) (fun c55 => ?_)
              · exact absurd c55 (by decide)
              · refine lv_goto (tgt := 270) hx hb dL_same_58 (by decide) ?_
                have hl : lv_has ls 10 [(7, .int (handle (sE M) k9)), (6, .int (nI k9)), (5, .int (nI (cnt (mAl (sE M)) (k9 + 1)))), (0, .ref b0), (1, .ref (g + 1)), (2, .ref (g + 2)), (3, .ref (g + 3)), (4, .ref (g + 9))] := by
                  have e9 : (nI (cnt (mAl (sE M)) k9)) = (nI (cnt (mAl (sE M)) (k9 + 1))) := congrArg nI (cnt_f hal).symm
                  first
                    | (rw [← e9]; exact hl)
                    | (rw [e9] at hl; exact hl)
                refine W.widen (k := 41 * (k9 + 1)) (n := 246 * (k9 + 1)) (by omega) (by omega) ?_
                refine lv_iinc (v := (nI (k9 + 1))) (lv' := [(6, .int (nI (k9 + 1))), (7, .int (handle (sE M) k9)), (5, .int (nI (cnt (mAl (sE M)) (k9 + 1)))), (0, .ref b0), (1, .ref (g + 1)), (2, .ref (g + 2)), (3, .ref (g + 3)), (4, .ref (g + 9))]) hx hb dL_same_270 hl (k := 1) rfl (nI_inc _) (by decide) rfl (fun ls hl => ?_)
                refine lv_goto (tgt := 6) hx hb dL_same_273 (by decide) ?_
                exact ih6 (k9 + 1) H13 locs13 (by omega) (by omega) hPK hS ls (lv_sub hl [0, 2, 3, 4, 5, 6, 7] rfl)
            · exact absurd c43 (by decide)
          · exact absurd c35 (by decide)
  exact loop6 (10 - 0 + 1) 0 H [] (Nat.lt_succ_self _) (by omega) hPK hS ls (lv_sub hl [0, 1, 2, 3, 4, 5, 6] rfl)

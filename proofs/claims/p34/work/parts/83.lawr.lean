set_option maxHeartbeats 4000000 in
set_option maxRecDepth 100000 in
theorem c_L_run (l : Launch) {D : va_G} {T : Nat → ClassId} {dE mi : Nat} {g : Nat} {Y : Nat → Nat → Int32} {H : Heap} (hL : SL T g Y H) {E : mE} (hE : LE Y E) (hK6 : ∀ k, mKd E k < 64) {Z9 : mQ} (hZ : LYs Y Z9) (iZ : InvY Z9) {tk : Int32} (ht : Y 9 1 = tk) : vx_Met l yL_run wsL_run (rmL 0 0 0) (PcE D T dE mi (AS g) H [.ref (g + 1), .ref (g + 2), .ref (g + 3), .ref (g + 6), .ref (g + 9)]) (QI (AS g) (fun r H1 => r = (runS Z9 (tk + 1) E (stgs Z9 Z9.1)).2 ∧ ∃ Y1, SL T g Y1 H1 ∧ LE Y1 (runS Z9 (tk + 1) E (stgs Z9 Z9.1)).1 ∧ Y1 9 1 = tk + 1 ∧ (∀ j, j ≠ 2 → j ≠ 3 → j ≠ 9 → Y1 j = Y j) ∧ ∀ i, i ≠ 1 → Y1 9 i = Y 9 i)) (XX (AS g) (XN)) 0 0 (AS g) := by
  refine entry (cc := cL_run) (maxL := 11) (ret := (some .int)) (by decide) rfl (Nat.le_of_ble_eq_true rfl) ?_
  intro p e s m args below meth c hx hb hrt9 hml hown hts hlk hnt hnm hev hS ls hl
  have hown : s.vm.findClass RL = some m.cls := hown
  have hK := hev.1
  have hl : lv_has ls 11 [(0, .ref (g + 1)), (1, .ref (g + 2)), (2, .ref (g + 3)), (3, .ref (g + 6)), (4, .ref (g + 9))] := hl
  have hz8 := iZ.1
  have hst8 := stgs_le iZ Z9.1 (Nat.le_refl _)
  refine lv_iconst (v := nI 0) hx hb dL_run_0 (by decide) ?_
  refine lv_istore (lv' := [(5, .int (nI 0)), (0, .ref (g + 1)), (1, .ref (g + 2)), (2, .ref (g + 3)), (3, .ref (g + 6)), (4, .ref (g + 9))]) hx hb dL_run_1 hl (by decide) rfl (fun ls hl => ?_)
  refine lv_aload hx hb dL_run_3 (lv_at hl 5 rfl) ?_
  refine lv_iconst (v := nI 1) hx hb dL_run_5 (by decide) ?_
  refine lv_dup2_11 hx hb dL_run_6 rfl rfl ?_
  refine n_ld9 (i := 1) hx hb hK hL (by omega) dL_run_7 ?_
  refine x_top (y := tk) (ht) ?_
  refine lv_iconst (v := nI 1) hx hb dL_run_8 (by decide) ?_
  refine lv_iadd hx hb dL_run_9 ?_
  refine x_top (y := (tk + 1)) (rfl) ?_
  refine n_st9 (i := 1) (v := (tk + 1)) hx hb hK hS hL (fun _ h => h) (by omega) dL_run_10 (fun H1 locs1 hL hz1 hq1 hS => ?_)
  obtain ⟨Ya, hL, hya⟩ : ∃ Ya, SL T g Ya H1 ∧ Ya = up2 Y 9 (upd (Y 9) 1 (tk + 1)) := ⟨_, hL, rfl⟩
  have hEa : LE Ya E := by rw [hya]; exact hE.same rfl rfl rfl
  have hZa : LYs Ya Z9 := by rw [hya]; exact hZ
  have hta : Ya 9 1 = tk + 1 := by rw [hya]; rfl
  have hja : ∀ j, j ≠ 9 → Ya j = Y j := fun j h => by rw [hya]; simp only [up2, if_neg h]
  have hia : ∀ i, i ≠ 1 → Ya 9 i = Y 9 i := fun i h => by rw [hya]; exact upd_n h
  refine lv_iconst (v := nI 0) hx hb dL_run_11 (by decide) ?_
  refine lv_istore (lv' := [(6, .int (nI 0)), (5, .int (nI 0)), (0, .ref (g + 1)), (1, .ref (g + 2)), (2, .ref (g + 3)), (3, .ref (g + 6)), (4, .ref (g + 9))]) hx hb dL_run_12 hl (by decide) rfl (fun ls hl => ?_)
  have loop14 : ∀ (n : Nat) (s9 : Nat) (n1 : Int32) (Y9 : Nat → Nat → Int32) (H9 : Heap) (locs9 : List Loc), 8 - s9 < n → (s9 ≤ 8) → (SL T g Y9 H9) → (va_S (AS g) s.heap H9 locs9) → (LE Y9 (runS Z9 (tk + 1) E s9).1) → (n1 = (runS Z9 (tk + 1) E s9).2) → (∀ j, j ≠ 2 → j ≠ 3 → Y9 j = Ya j) → ∀ (ls : Array Slot), lv_has ls 11 [(6, .int (nI s9)), (5, .int n1), (0, .ref (g + 1)), (1, .ref (g + 2)), (2, .ref (g + 3)), (3, .ref (g + 6)), (4, .ref (g + 9))] → W p l e (rmL 0 0 0) s m args below meth c H9 locs9 (0) (0) (vx_MQ below (QI (AS g) (fun r H1 => r = (runS Z9 (tk + 1) E (stgs Z9 Z9.1)).2 ∧ ∃ Y1, SL T g Y1 H1 ∧ LE Y1 (runS Z9 (tk + 1) E (stgs Z9 Z9.1)).1 ∧ Y1 9 1 = tk + 1 ∧ (∀ j, j ≠ 2 → j ≠ 3 → j ≠ 9 → Y1 j = Y j) ∧ ∀ i, i ≠ 1 → Y1 9 i = Y 9 i)) (XX (AS g) (XN)) args s 0 0 (AS g)) (F0 m 14 ls []) := by
    intro n
    induction n with
    | zero => intro s9 n1 Y9 H9 locs9 hfuel; exact absurd hfuel (Nat.not_lt_zero _)
    | succ n ih14 =>
      intro s9 n1 Y9 H9 locs9 hfuel hs8 hL hS hE9 hn1 hf9 ls hl
      refine lv_iload hx hb dL_run_14 (lv_at hl 0 rfl) ?_
      refine lv_bipush (v := nI 8) hx hb dL_run_16 (by decide) ?_
      refine y_icmp_ge hx hb (by omega) (Nat.le_of_ble_eq_true rfl) (tgt := 230) dL_run_18 (by decide) (fun c18 => ?_) (fun c18 => ?_)
      · refine lv_iload hx hb dL_run_230 (lv_at hl 1 rfl) ?_
        exact r_i hx hb hrt9 hlk hS (Nat.le_of_ble_eq_true rfl) (Nat.le_of_ble_eq_true rfl) dL_run_232 (⟨by rw [hn1, runS_past s9 (by omega)], Y9, hL, by rw [runS_past s9 (by omega)] at hE9; exact hE9, by rw [hf9 9 (by decide) (by decide)]; exact hta, fun j h2 h3 h9 => (hf9 j h2 h3).trans (hja j h9), fun i hi => by rw [hf9 9 (by decide) (by decide)]; exact hia i hi⟩)
      · refine lv_iconst (v := nI 0) hx hb dL_run_21 (by decide) ?_
        refine lv_istore (lv' := [(7, .int (nI 0)), (6, .int (nI s9)), (5, .int n1), (0, .ref (g + 1)), (1, .ref (g + 2)), (2, .ref (g + 3)), (3, .ref (g + 6)), (4, .ref (g + 9))]) hx hb dL_run_22 hl (by decide) rfl (fun ls hl => ?_)
        have loop24 : ∀ (n : Nat) (i9 : Nat) (n2 : Int32) (Y8 : Nat → Nat → Int32) (H8 : Heap) (locs8 : List Loc), Z9.1 - i9 < n → (i9 ≤ Z9.1) → (SL T g Y8 H8) → (va_S (AS g) s.heap H8 locs8) → (LE Y8 (runK Z9 (tk + 1) s9 (runS Z9 (tk + 1) E s9).1 i9).1) → (n2 = n1 + (runK Z9 (tk + 1) s9 (runS Z9 (tk + 1) E s9).1 i9).2) → (∀ j, j ≠ 2 → j ≠ 3 → Y8 j = Ya j) → ∀ (ls : Array Slot), lv_has ls 11 [(7, .int (nI i9)), (5, .int n2), (6, .int (nI s9)), (0, .ref (g + 1)), (1, .ref (g + 2)), (2, .ref (g + 3)), (3, .ref (g + 6)), (4, .ref (g + 9))] → W p l e (rmL 0 0 0) s m args below meth c H8 locs8 (0) (0) (vx_MQ below (QI (AS g) (fun r H1 => r = (runS Z9 (tk + 1) E (stgs Z9 Z9.1)).2 ∧ ∃ Y1, SL T g Y1 H1 ∧ LE Y1 (runS Z9 (tk + 1) E (stgs Z9 Z9.1)).1 ∧ Y1 9 1 = tk + 1 ∧ (∀ j, j ≠ 2 → j ≠ 3 → j ≠ 9 → Y1 j = Y j) ∧ ∀ i, i ≠ 1 → Y1 9 i = Y 9 i)) (XX (AS g) (XN)) args s 0 0 (AS g)) (F0 m 24 ls []) := by
          intro n
          induction n with
          | zero => intro i9 n2 Y8 H8 locs8 hfuel; exact absurd hfuel (Nat.not_lt_zero _)
          | succ n ih24 =>
            intro i9 n2 Y8 H8 locs8 hfuel hi9 hL hS hE8 hn2 hf8 ls hl
            refine lv_iload hx hb dL_run_24 (lv_at hl 0 rfl) ?_
            refine lv_aload hx hb dL_run_26 (lv_at hl 7 rfl) ?_
            refine lv_iconst (v := nI 3) hx hb dL_run_28 (by decide) ?_
            refine n_ld9 (i := 3) hx hb hK hL (by omega) dL_run_29 ?_
            refine x_top (y := (nI Z9.1)) (by rw [hf8 9 (by decide) (by decide)]; exact hZa.1) ?_
            refine y_icmp_ge hx hb (by omega) (by omega) (tgt := 224) dL_run_30 (by decide) (fun c30 => ?_) (fun c30 => ?_)
            · refine lv_iinc (v := (nI (s9 + 1))) (lv' := [(6, .int (nI (s9 + 1))), (7, .int (nI i9)), (5, .int n2), (0, .ref (g + 1)), (1, .ref (g + 2)), (2, .ref (g + 3)), (3, .ref (g + 6)), (4, .ref (g + 9))]) hx hb dL_run_224 hl (k := 2) rfl (nI_inc _) (by decide) rfl (fun ls hl => ?_)
              refine lv_goto (tgt := 14) hx hb dL_run_227 (by decide) ?_
              exact ih14 (s9 + 1) n2 Y8 H8 locs8 (by omega) (by omega) hL hS (by rw [show i9 = Z9.1 by omega] at hE8; exact hE8) (by rw [hn2, hn1, show i9 = Z9.1 by omega]; rfl) hf8 ls (lv_sub hl [0, 2, 3, 4, 5, 6, 7] rfl)
            · by_cases hsg : Z9.2.2.2 i9 = s9
              · refine lv_iconst (v := nI 0) hx hb dL_run_33 (by decide) ?_
                refine lv_istore (lv' := [(8, .int (nI 0)), (7, .int (nI i9)), (5, .int n2), (6, .int (nI s9)), (0, .ref (g + 1)), (1, .ref (g + 2)), (2, .ref (g + 3)), (3, .ref (g + 6)), (4, .ref (g + 9))]) hx hb dL_run_34 hl (by decide) rfl (fun ls hl => ?_)
                have hKK : mAl (runK Z9 (tk + 1) s9 (runS Z9 (tk + 1) E s9).1 i9).1 = mAl (runS Z9 (tk + 1) E s9).1 ∧ mKd (runK Z9 (tk + 1) s9 (runS Z9 (tk + 1) E s9).1 i9).1 = mKd (runS Z9 (tk + 1) E s9).1 := ⟨(runK_al i9).1, (runK_al i9).2.2.1⟩
                have h10 : ∀ k, mAl (runS Z9 (tk + 1) E s9).1 k = true → k < 10 := by rw [← hKK.1]; exact hE8.2.2.2.2.1
                have hp10 : ∀ k, (hitB (runS Z9 (tk + 1) E s9).1 ((Z9.2.1 i9) ||| (Z9.2.2.1 i9))) k = true → k < 10 := fun k h => h10 k (by unfold hitB at h; cases z : mAl (runS Z9 (tk + 1) E s9).1 k; rw [z] at h; cases h; rfl)
                have hk64 : ∀ k, mKd (runS Z9 (tk + 1) E s9).1 k < 64 := by rw [(runS_al s9).2.2.1]; exact hK6
                have loop36 : ∀ (n : Nat) (k9 : Nat) (n3 : Int32) (Y7 : Nat → Nat → Int32) (H7 : Heap) (locs7 : List Loc), 10 - k9 < n → (k9 ≤ 10) → (SL T g Y7 H7) → (va_S (AS g) s.heap H7 locs7) → (LE Y7 (sysT (runK Z9 (tk + 1) s9 (runS Z9 (tk + 1) E s9).1 i9).1 (Z9.2.1 i9) (Z9.2.2.1 i9) (tk + 1) (hitB (runS Z9 (tk + 1) E s9).1 ((Z9.2.1 i9) ||| (Z9.2.2.1 i9))) k9)) → (n3 = n2 + nI (cnt (hitB (runS Z9 (tk + 1) E s9).1 ((Z9.2.1 i9) ||| (Z9.2.2.1 i9))) k9 * cntK (Z9.2.2.1 i9) 6)) → (∀ j, j ≠ 2 → j ≠ 3 → Y7 j = Ya j) → ∀ (ls : Array Slot), lv_has ls 11 [(8, .int (nI k9)), (5, .int n3), (7, .int (nI i9)), (6, .int (nI s9)), (0, .ref (g + 1)), (1, .ref (g + 2)), (2, .ref (g + 3)), (3, .ref (g + 6)), (4, .ref (g + 9))] → W p l e (rmL 0 0 0) s m args below meth c H7 locs7 (0) (0) (vx_MQ below (QI (AS g) (fun r H1 => r = (runS Z9 (tk + 1) E (stgs Z9 Z9.1)).2 ∧ ∃ Y1, SL T g Y1 H1 ∧ LE Y1 (runS Z9 (tk + 1) E (stgs Z9 Z9.1)).1 ∧ Y1 9 1 = tk + 1 ∧ (∀ j, j ≠ 2 → j ≠ 3 → j ≠ 9 → Y1 j = Y j) ∧ ∀ i, i ≠ 1 → Y1 9 i = Y 9 i)) (XX (AS g) (XN)) args s 0 0 (AS g)) (F0 m 36 ls []) := by
                  intro n
                  induction n with
                  | zero => intro k9 n3 Y7 H7 locs7 hfuel; exact absurd hfuel (Nat.not_lt_zero _)
                  | succ n ih36 =>
                    intro k9 n3 Y7 H7 locs7 hfuel hk9 hL hS hE7 hn3 hf7 ls hl
                    refine lv_iload hx hb dL_run_36 (lv_at hl 0 rfl) ?_
                    refine lv_bipush (v := nI 10) hx hb dL_run_38 (by decide) ?_
                    refine y_icmp_ge hx hb (by omega) (Nat.le_of_ble_eq_true rfl) (tgt := 218) dL_run_40 (by decide) (fun c40 => ?_) (fun c40 => ?_)
                    · refine lv_iinc (v := (nI (i9 + 1))) (lv' := [(7, .int (nI (i9 + 1))), (8, .int (nI k9)), (5, .int n3), (6, .int (nI s9)), (0, .ref (g + 1)), (1, .ref (g + 2)), (2, .ref (g + 3)), (3, .ref (g + 6)), (4, .ref (g + 9))]) hx hb dL_run_218 hl (k := 2) rfl (nI_inc _) (by decide) rfl (fun ls hl => ?_)
                      refine lv_goto (tgt := 24) hx hb dL_run_221 (by decide) ?_
                      exact ih24 (i9 + 1) n3 Y7 H7 locs7 (by omega) (by omega) hL hS (by rw [runK_t hsg, ← sysT_10 hp10]; rw [show k9 = 10 by omega] at hE7; exact hE7) (by rw [hn3, hn2, runK_t hsg, show k9 = 10 by omega, ← cnt_10 (fun k hk => by cases z : (hitB (runS Z9 (tk + 1) E s9).1 ((Z9.2.1 i9) ||| (Z9.2.2.1 i9))) k; rfl; have := hp10 k z; omega) 32 (by decide), Int32.add_assoc]) hf7 ls (lv_sub hl [0, 2, 3, 4, 5, 6, 7, 8] rfl)
                    · refine lv_aload_n hx hb dL_run_43 rfl (lv_at hl 7 rfl) ?_
                      refine lv_iconst (v := nI 3) hx hb dL_run_44 (by decide) ?_
                      refine lv_iload hx hb dL_run_45 (lv_at hl 2 rfl) ?_
                      refine y_imul hx hb dL_run_47 ?_
                      refine lv_iconst (v := nI 2) hx hb dL_run_48 (by decide) ?_
                      refine y_iadd hx hb dL_run_49 ?_
                      refine n_ld6 (i := (3 * i9) + 2) hx hb hK hL (by omega) dL_run_50 ?_
                      refine x_top (y := (nI (Z9.2.2.2 i9))) (by rw [hf7 6 (by decide) (by decide)]; exact (hZa.2 i9 c30).2.2) ?_
                      have hs9 := (iZ.2 i9 c30).2.2
                      refine lv_iload hx hb dL_run_51 (lv_at hl 3 rfl) ?_
                      refine y_icmp_ne hx hb (by omega) (by omega) (tgt := 218) dL_run_53 (by decide) (fun c53 => ?_) (fun c53 => ?_)
                      · exact absurd hsg c53
                      · refine lv_aload_n hx hb dL_run_56 rfl (lv_at hl 4 rfl) ?_
                        refine lv_bipush (v := nI 6) hx hb dL_run_57 (by decide) ?_
                        refine lv_iload hx hb dL_run_59 (lv_at hl 0 rfl) ?_
                        refine y_imul hx hb dL_run_61 ?_
                        refine n_ld1 (i := 6 * k9) hx hb hK hL (by omega) dL_run_62 ?_
                        refine x_top (y := (bI (mAl (runS Z9 (tk + 1) E s9).1 k9))) (by rw [hE7.1 k9 (by omega)]; exact congrArg bI (congrFun hKK.1 k9)) ?_
                        refine y_bif_eq hx hb (tgt := 212) dL_run_63 (by decide) (fun c63 => ?_) (fun c63 => ?_)
                        · have hpk : (hitB (runS Z9 (tk + 1) E s9).1 ((Z9.2.1 i9) ||| (Z9.2.2.1 i9))) k9 = false := by unfold hitB; rw [c63]; rfl
                          refine lv_iinc (v := (nI (k9 + 1))) (lv' := [(8, .int (nI (k9 + 1))), (5, .int n3), (7, .int (nI i9)), (6, .int (nI s9)), (0, .ref (g + 1)), (1, .ref (g + 2)), (2, .ref (g + 3)), (3, .ref (g + 6)), (4, .ref (g + 9))]) hx hb dL_run_212 hl (k := 0) rfl (nI_inc _) (by decide) rfl (fun ls hl => ?_)
                          refine lv_goto (tgt := 36) hx hb dL_run_215 (by decide) ?_
                          exact ih36 (k9 + 1) n3 Y7 H7 locs7 (by omega) (by omega) hL hS (by rw [sysT_F hpk]; exact hE7) (by rw [hn3, cnt_f hpk]) hf7 ls (lv_sub hl [0, 1, 2, 3, 4, 5, 6, 7, 8] rfl)
                        · refine lv_aload_n hx hb dL_run_66 rfl (lv_at hl 7 rfl) ?_
                          refine lv_iconst (v := nI 3) hx hb dL_run_67 (by decide) ?_
                          refine lv_iload hx hb dL_run_68 (lv_at hl 2 rfl) ?_
                          refine y_imul hx hb dL_run_70 ?_
                          refine n_ld6 (i := 3 * i9) hx hb hK hL (by omega) dL_run_71 ?_
                          refine x_top (y := (nI ((Z9.2.1 i9)))) (by rw [hf7 6 (by decide) (by decide)]; exact (hZa.2 i9 c30).1) ?_
                          refine lv_aload_n hx hb dL_run_72 rfl (lv_at hl 7 rfl) ?_
                          refine lv_iconst (v := nI 3) hx hb dL_run_73 (by decide) ?_
                          refine lv_iload hx hb dL_run_74 (lv_at hl 2 rfl) ?_
                          refine y_imul hx hb dL_run_76 ?_
                          refine lv_iconst (v := nI 1) hx hb dL_run_77 (by decide) ?_
                          refine y_iadd hx hb dL_run_78 ?_
                          refine n_ld6 (i := (3 * i9) + 1) hx hb hK hL (by omega) dL_run_79 ?_
                          refine x_top (y := (nI ((Z9.2.2.1 i9)))) (by rw [hf7 6 (by decide) (by decide)]; exact (hZa.2 i9 c30).2.1) ?_
                          refine lv_ior hx hb dL_run_80 ?_
                          refine x_top (y := (nI ((Z9.2.1 i9) ||| (Z9.2.2.1 i9)))) ((bit_or (Z9.2.1 i9) (iZ.2 i9 c30).1 (Z9.2.2.1 i9) (iZ.2 i9 c30).2.1).1) ?_
                          refine lv_aload_n hx hb dL_run_81 rfl (lv_at hl 4 rfl) ?_
                          refine lv_bipush (v := nI 6) hx hb dL_run_82 (by decide) ?_
                          refine lv_iload hx hb dL_run_84 (lv_at hl 0 rfl) ?_
                          refine y_imul hx hb dL_run_86 ?_
                          refine lv_iconst (v := nI 2) hx hb dL_run_87 (by decide) ?_
                          refine y_iadd hx hb dL_run_88 ?_
                          refine n_ld1 (i := (6 * k9) + 2) hx hb hK hL (by omega) dL_run_89 ?_
                          refine x_top (y := (nI (mKd (runS Z9 (tk + 1) E s9).1 k9))) (by rw [hE7.2.2.1 k9 (by omega) (by rw [show mAl (sysT (runK Z9 (tk + 1) s9 (runS Z9 (tk + 1) E s9).1 i9).1 (Z9.2.1 i9) (Z9.2.2.1 i9) (tk + 1) (hitB (runS Z9 (tk + 1) E s9).1 ((Z9.2.1 i9) ||| (Z9.2.2.1 i9))) k9) k9 = mAl (runS Z9 (tk + 1) E s9).1 k9 from congrFun hKK.1 k9]; exact c63)]; exact congrArg nI (congrFun hKK.2 k9)) ?_
                          refine lv_iconst (v := -1) hx hb dL_run_90 (by decide) ?_
                          refine lv_ixor hx hb dL_run_91 ?_
                          refine lv_iand hx hb dL_run_92 ?_
                          refine lv_if_eq (tgt := 99) hx hb dL_run_93 (by decide) (fun c93 => ?_) (fun c93 => ?_)
                          · have hpk : (hitB (runS Z9 (tk + 1) E s9).1 ((Z9.2.1 i9) ||| (Z9.2.2.1 i9))) k9 = true := by unfold hitB; rw [c63, (bit_nsub _ (hk64 k9) _ (bit_or (Z9.2.1 i9) (iZ.2 i9 c30).1 (Z9.2.2.1 i9) (iZ.2 i9 c30).2.1).2).mp c93]; rfl
                            refine lv_iconst (v := nI 1) hx hb dL_run_99 (by decide) ?_
                            refine lv_istore (lv' := [(9, .int (nI 1)), (8, .int (nI k9)), (5, .int n3), (7, .int (nI i9)), (6, .int (nI s9)), (0, .ref (g + 1)), (1, .ref (g + 2)), (2, .ref (g + 3)), (3, .ref (g + 6)), (4, .ref (g + 9))]) hx hb dL_run_100 hl (by decide) rfl (fun ls hl => ?_)
                            refine lv_iconst (v := nI 0) hx hb dL_run_102 (by decide) ?_
                            refine lv_istore (lv' := [(10, .int (nI 0)), (9, .int (nI 1)), (8, .int (nI k9)), (5, .int n3), (7, .int (nI i9)), (6, .int (nI s9)), (0, .ref (g + 1)), (1, .ref (g + 2)), (2, .ref (g + 3)), (3, .ref (g + 6)), (4, .ref (g + 9))]) hx hb dL_run_103 hl (by decide) rfl (fun ls hl => ?_)
                            have loop105 : ∀ (n : Nat) (q9 : Nat), 6 - q9 < n → (q9 ≤ 6) → ∀ (ls : Array Slot), lv_has ls 11 [(10, .int (nI q9)), (9, .int (sumK (Z9.2.1 i9) (mVal (runK Z9 (tk + 1) s9 (runS Z9 (tk + 1) E s9).1 i9).1 k9) q9)), (8, .int (nI k9)), (5, .int n3), (7, .int (nI i9)), (6, .int (nI s9)), (0, .ref (g + 1)), (1, .ref (g + 2)), (2, .ref (g + 3)), (3, .ref (g + 6)), (4, .ref (g + 9))] → W p l e (rmL 0 0 0) s m args below meth c H7 locs7 (0) (0) (vx_MQ below (QI (AS g) (fun r H1 => r = (runS Z9 (tk + 1) E (stgs Z9 Z9.1)).2 ∧ ∃ Y1, SL T g Y1 H1 ∧ LE Y1 (runS Z9 (tk + 1) E (stgs Z9 Z9.1)).1 ∧ Y1 9 1 = tk + 1 ∧ (∀ j, j ≠ 2 → j ≠ 3 → j ≠ 9 → Y1 j = Y j) ∧ ∀ i, i ≠ 1 → Y1 9 i = Y 9 i)) (XX (AS g) (XN)) args s 0 0 (AS g)) (F0 m 105 ls []) := by
                              intro n
                              induction n with
                              | zero => intro q9 hfuel; exact absurd hfuel (Nat.not_lt_zero _)
                              | succ n ih105 =>
                                intro q9 hfuel hq9 ls hl
                                refine lv_iload hx hb dL_run_105 (lv_at hl 0 rfl) ?_
                                refine lv_bipush (v := nI 6) hx hb dL_run_107 (by decide) ?_
                                refine y_icmp_ge hx hb (by omega) (Nat.le_of_ble_eq_true rfl) (tgt := 145) dL_run_109 (by decide) (fun c109 => ?_) (fun c109 => ?_)
                                · have hl : lv_has ls 11 [(10, .int (nI q9)), (9, .int ((sumK (Z9.2.1 i9) (mVal (runK Z9 (tk + 1) s9 (runS Z9 (tk + 1) E s9).1 i9).1 k9) 6))), (8, .int (nI k9)), (5, .int n3), (7, .int (nI i9)), (6, .int (nI s9)), (0, .ref (g + 1)), (1, .ref (g + 2)), (2, .ref (g + 3)), (3, .ref (g + 6)), (4, .ref (g + 9))] := by
                                    have e9 : (sumK (Z9.2.1 i9) (mVal (runK Z9 (tk + 1) s9 (runS Z9 (tk + 1) E s9).1 i9).1 k9) q9) = ((sumK (Z9.2.1 i9) (mVal (runK Z9 (tk + 1) s9 (runS Z9 (tk + 1) E s9).1 i9).1 k9) 6)) := by rw [show q9 = 6 by omega]
                                    first
                                      | (rw [← e9]; exact hl)
                                      | (rw [e9] at hl; exact hl)
                                  have hl : lv_has ls 11 [(10, .int (nI q9)), (9, .int ((sumK (Z9.2.1 i9) (mVal (runK Z9 (tk + 1) s9 (runS Z9 (tk + 1) E s9).1 i9).1 k9) 6))), (8, .int (nI k9)), (5, .int (n3 + nI (cntK (Z9.2.2.1 i9) 0))), (7, .int (nI i9)), (6, .int (nI s9)), (0, .ref (g + 1)), (1, .ref (g + 2)), (2, .ref (g + 3)), (3, .ref (g + 6)), (4, .ref (g + 9))] := by
                                    have e9 : n3 = (n3 + nI (cntK (Z9.2.2.1 i9) 0)) := (Int32.add_zero _).symm
                                    first
                                      | (rw [← e9]; exact hl)
                                      | (rw [e9] at hl; exact hl)
                                  refine lv_iconst (v := nI 0) hx hb dL_run_145 (by decide) ?_
                                  refine lv_istore (lv' := [(10, .int (nI 0)), (9, .int ((sumK (Z9.2.1 i9) (mVal (runK Z9 (tk + 1) s9 (runS Z9 (tk + 1) E s9).1 i9).1 k9) 6))), (8, .int (nI k9)), (5, .int (n3 + nI (cntK (Z9.2.2.1 i9) 0))), (7, .int (nI i9)), (6, .int (nI s9)), (0, .ref (g + 1)), (1, .ref (g + 2)), (2, .ref (g + 3)), (3, .ref (g + 6)), (4, .ref (g + 9))]) hx hb dL_run_146 hl (by decide) rfl (fun ls hl => ?_)
                                  have loop148 : ∀ (n : Nat) (q9 : Nat) (Y6 : Nat → Nat → Int32) (H6 : Heap) (locs6 : List Loc), 6 - q9 < n → (q9 ≤ 6) → (SL T g Y6 H6) → (va_S (AS g) s.heap H6 locs6) → (LE Y6 (wkE (sysT (runK Z9 (tk + 1) s9 (runS Z9 (tk + 1) E s9).1 i9).1 (Z9.2.1 i9) (Z9.2.2.1 i9) (tk + 1) (hitB (runS Z9 (tk + 1) E s9).1 ((Z9.2.1 i9) ||| (Z9.2.2.1 i9))) k9) k9 (Z9.2.2.1 i9) (sumK (Z9.2.1 i9) (mVal (runK Z9 (tk + 1) s9 (runS Z9 (tk + 1) E s9).1 i9).1 k9) 6) (tk + 1) q9)) → (∀ j, j ≠ 2 → j ≠ 3 → Y6 j = Ya j) → ∀ (ls : Array Slot), lv_has ls 11 [(10, .int (nI q9)), (9, .int ((sumK (Z9.2.1 i9) (mVal (runK Z9 (tk + 1) s9 (runS Z9 (tk + 1) E s9).1 i9).1 k9) 6))), (8, .int (nI k9)), (5, .int (n3 + nI (cntK (Z9.2.2.1 i9) q9))), (7, .int (nI i9)), (6, .int (nI s9)), (0, .ref (g + 1)), (1, .ref (g + 2)), (2, .ref (g + 3)), (3, .ref (g + 6)), (4, .ref (g + 9))] → W p l e (rmL 0 0 0) s m args below meth c H6 locs6 (0) (0) (vx_MQ below (QI (AS g) (fun r H1 => r = (runS Z9 (tk + 1) E (stgs Z9 Z9.1)).2 ∧ ∃ Y1, SL T g Y1 H1 ∧ LE Y1 (runS Z9 (tk + 1) E (stgs Z9 Z9.1)).1 ∧ Y1 9 1 = tk + 1 ∧ (∀ j, j ≠ 2 → j ≠ 3 → j ≠ 9 → Y1 j = Y j) ∧ ∀ i, i ≠ 1 → Y1 9 i = Y 9 i)) (XX (AS g) (XN)) args s 0 0 (AS g)) (F0 m 148 ls []) := by
                                    intro n
                                    induction n with
                                    | zero => intro q9 Y6 H6 locs6 hfuel; exact absurd hfuel (Nat.not_lt_zero _)
                                    | succ n ih148 =>
                                      intro q9 Y6 H6 locs6 hfuel hq9 hL hS hE6 hf6 ls hl
                                      refine lv_iload hx hb dL_run_148 (lv_at hl 0 rfl) ?_
                                      refine lv_bipush (v := nI 6) hx hb dL_run_150 (by decide) ?_
                                      refine y_icmp_ge hx hb (by omega) (Nat.le_of_ble_eq_true rfl) (tgt := 212) dL_run_152 (by decide) (fun c152 => ?_) (fun c152 => ?_)
                                      · refine lv_iinc (v := (nI (k9 + 1))) (lv' := [(8, .int (nI (k9 + 1))), (10, .int (nI q9)), (9, .int ((sumK (Z9.2.1 i9) (mVal (runK Z9 (tk + 1) s9 (runS Z9 (tk + 1) E s9).1 i9).1 k9) 6))), (5, .int (n3 + nI (cntK (Z9.2.2.1 i9) q9))), (7, .int (nI i9)), (6, .int (nI s9)), (0, .ref (g + 1)), (1, .ref (g + 2)), (2, .ref (g + 3)), (3, .ref (g + 6)), (4, .ref (g + 9))]) hx hb dL_run_212 hl (k := 2) rfl (nI_inc _) (by decide) rfl (fun ls hl => ?_)
                                        refine lv_goto (tgt := 36) hx hb dL_run_215 (by decide) ?_
                                        exact ih36 (k9 + 1) (n3 + nI (cntK (Z9.2.2.1 i9) q9)) Y6 H6 locs6 (by omega) (by omega) hL hS (by rw [← sysT_t hpk]; rw [show q9 = 6 by omega] at hE6; exact hE6) (by rw [hn3, show q9 = 6 by omega, acc_t, cnt_t hpk]) hf6 ls (lv_sub hl [0, 3, 4, 5, 6, 7, 8, 9, 10] rfl)
                                      · refine lv_aload_n hx hb dL_run_155 rfl (lv_at hl 9 rfl) ?_
                                        refine lv_iconst (v := nI 3) hx hb dL_run_156 (by decide) ?_
                                        refine lv_iload hx hb dL_run_157 (lv_at hl 4 rfl) ?_
                                        refine y_imul hx hb dL_run_159 ?_
                                        refine lv_iconst (v := nI 1) hx hb dL_run_160 (by decide) ?_
                                        refine y_iadd hx hb dL_run_161 ?_
                                        refine n_ld6 (i := (3 * i9) + 1) hx hb hK hL (by omega) dL_run_162 ?_
                                        refine x_top (y := (nI ((Z9.2.2.1 i9)))) (by rw [hf6 6 (by decide) (by decide)]; exact (hZa.2 i9 c30).2.1) ?_
                                        refine lv_iload hx hb dL_run_163 (lv_at hl 0 rfl) ?_
                                        refine lv_ishr hx hb dL_run_165 ?_
                                        refine lv_iconst (v := nI 1) hx hb dL_run_166 (by decide) ?_
                                        refine lv_iand hx hb dL_run_167 ?_
                                        refine x_top (y := (bI (bitS (Z9.2.2.1 i9) q9))) (bit_val (Z9.2.2.1 i9) (iZ.2 i9 c30).2.1 q9 c152) ?_
                                        refine y_bif_ne hx hb (tgt := 174) dL_run_168 (by decide) (fun c168 => ?_) (fun c168 => ?_)
                                        · refine lv_aload_n hx hb dL_run_174 rfl (lv_at hl 7 rfl) ?_
                                          refine lv_bipush (v := nI 6) hx hb dL_run_175 (by decide) ?_
                                          refine lv_iload hx hb dL_run_177 (lv_at hl 2 rfl) ?_
                                          refine y_imul hx hb dL_run_179 ?_
                                          refine lv_iload hx hb dL_run_180 (lv_at hl 0 rfl) ?_
                                          refine y_iadd hx hb dL_run_182 ?_
                                          refine lv_dup2_11 hx hb dL_run_183 rfl rfl ?_
                                          refine n_ld2 (i := (6 * k9) + q9) hx hb hK hL (by omega) dL_run_184 ?_
                                          refine x_top (y := (mVal (sysT (runK Z9 (tk + 1) s9 (runS Z9 (tk + 1) E s9).1 i9).1 (Z9.2.1 i9) (Z9.2.2.1 i9) (tk + 1) (hitB (runS Z9 (tk + 1) E s9).1 ((Z9.2.1 i9) ||| (Z9.2.2.1 i9))) k9) k9 q9)) (by rw [hE6.2.2.2.2.2.1 k9 q9 (by omega) c152]; exact wkE_v) ?_
                                          refine lv_iload hx hb dL_run_185 (lv_at hl 1 rfl) ?_
                                          refine lv_iadd hx hb dL_run_187 ?_
                                          refine n_st2 (i := (6 * k9) + q9) (v := ((mVal (sysT (runK Z9 (tk + 1) s9 (runS Z9 (tk + 1) E s9).1 i9).1 (Z9.2.1 i9) (Z9.2.2.1 i9) (tk + 1) (hitB (runS Z9 (tk + 1) E s9).1 ((Z9.2.1 i9) ||| (Z9.2.2.1 i9))) k9) k9 q9) + ((sumK (Z9.2.1 i9) (mVal (runK Z9 (tk + 1) s9 (runS Z9 (tk + 1) E s9).1 i9).1 k9) 6)))) hx hb hK hS hL (fun _ h => h) (by omega) dL_run_188 (fun H2 locs2 hL hz2 hq2 hS => ?_)
                                          refine lv_aload_n hx hb dL_run_189 rfl (lv_at hl 8 rfl) ?_
                                          refine lv_bipush (v := nI 6) hx hb dL_run_190 (by decide) ?_
                                          refine lv_iload hx hb dL_run_192 (lv_at hl 2 rfl) ?_
                                          refine y_imul hx hb dL_run_194 ?_
                                          refine lv_iload hx hb dL_run_195 (lv_at hl 0 rfl) ?_
                                          refine y_iadd hx hb dL_run_197 ?_
                                          refine lv_aload hx hb dL_run_198 (lv_at hl 10 rfl) ?_
                                          refine lv_iconst (v := nI 1) hx hb dL_run_200 (by decide) ?_
                                          refine n_ld9 (i := 1) hx hb hK hL (by omega) dL_run_201 ?_
                                          refine x_top (y := (tk + 1)) (by show Y6 9 1 = _; rw [hf6 9 (by decide) (by decide)]; exact hta) ?_
                                          refine n_st3 (i := (6 * k9) + q9) (v := (tk + 1)) hx hb hK hS hL (fun _ h => h) (by omega) dL_run_202 (fun H3 locs3 hL hz3 hq3 hS => ?_)
                                          obtain ⟨Y5, hL, hy5⟩ : ∃ Y5, SL T g Y5 H3 ∧ Y5 = up2 (up2 Y6 2 (upd (Y6 2) ((6 * k9) + q9) ((mVal (sysT (runK Z9 (tk + 1) s9 (runS Z9 (tk + 1) E s9).1 i9).1 (Z9.2.1 i9) (Z9.2.2.1 i9) (tk + 1) (hitB (runS Z9 (tk + 1) E s9).1 ((Z9.2.1 i9) ||| (Z9.2.2.1 i9))) k9) k9 q9) + ((sumK (Z9.2.1 i9) (mVal (runK Z9 (tk + 1) s9 (runS Z9 (tk + 1) E s9).1 i9).1 k9) 6))))) 3 (upd ((up2 Y6 2 (upd (Y6 2) ((6 * k9) + q9) ((mVal (sysT (runK Z9 (tk + 1) s9 (runS Z9 (tk + 1) E s9).1 i9).1 (Z9.2.1 i9) (Z9.2.2.1 i9) (tk + 1) (hitB (runS Z9 (tk + 1) E s9).1 ((Z9.2.1 i9) ||| (Z9.2.2.1 i9))) k9) k9 q9) + ((sumK (Z9.2.1 i9) (mVal (runK Z9 (tk + 1) s9 (runS Z9 (tk + 1) E s9).1 i9).1 k9) 6))))) 3) ((6 * k9) + q9) (tk + 1)) := ⟨_, hL, rfl⟩
                                          have hE5 : LE Y5 (wkE (sysT (runK Z9 (tk + 1) s9 (runS Z9 (tk + 1) E s9).1 i9).1 (Z9.2.1 i9) (Z9.2.2.1 i9) (tk + 1) (hitB (runS Z9 (tk + 1) E s9).1 ((Z9.2.1 i9) ||| (Z9.2.2.1 i9))) k9) k9 (Z9.2.2.1 i9) (sumK (Z9.2.1 i9) (mVal (runK Z9 (tk + 1) s9 (runS Z9 (tk + 1) E s9).1 i9).1 k9) 6) (tk + 1) (q9 + 1)) := by
                                            rw [← wkE_t c168]
                                            exact hE6.put (by omega) c152 (by rw [hy5]; rfl) (by rw [hy5]; rfl) (by rw [hy5]; rfl)
                                          have hf5 : ∀ j, j ≠ 2 → j ≠ 3 → Y5 j = Ya j := fun j h2 h3 => by rw [hy5]; simp only [up2, if_neg h2, if_neg h3]; exact hf6 j h2 h3
                                          refine lv_iinc (v := ((n3 + nI (cntK (Z9.2.2.1 i9) q9)) + 1)) (lv' := [(5, .int ((n3 + nI (cntK (Z9.2.2.1 i9) q9)) + 1)), (10, .int (nI q9)), (9, .int ((sumK (Z9.2.1 i9) (mVal (runK Z9 (tk + 1) s9 (runS Z9 (tk + 1) E s9).1 i9).1 k9) 6))), (8, .int (nI k9)), (7, .int (nI i9)), (6, .int (nI s9)), (0, .ref (g + 1)), (1, .ref (g + 2)), (2, .ref (g + 3)), (3, .ref (g + 6)), (4, .ref (g + 9))]) hx hb dL_run_203 hl (k := 3) rfl (rfl) (by decide) rfl (fun ls hl => ?_)
                                          have hl : lv_has ls 11 [(5, .int (n3 + nI (cntK (Z9.2.2.1 i9) (q9 + 1)))), (10, .int (nI q9)), (9, .int ((sumK (Z9.2.1 i9) (mVal (runK Z9 (tk + 1) s9 (runS Z9 (tk + 1) E s9).1 i9).1 k9) 6))), (8, .int (nI k9)), (7, .int (nI i9)), (6, .int (nI s9)), (0, .ref (g + 1)), (1, .ref (g + 2)), (2, .ref (g + 3)), (3, .ref (g + 6)), (4, .ref (g + 9))] := by
                                            have e9 : ((n3 + nI (cntK (Z9.2.2.1 i9) q9)) + 1) = (n3 + nI (cntK (Z9.2.2.1 i9) (q9 + 1))) := by rw [cntK_t c168, ← nI_1, ← Int32.add_assoc]
                                            first
                                              | (rw [← e9]; exact hl)
                                              | (rw [e9] at hl; exact hl)
                                          refine lv_iinc (v := (nI (q9 + 1))) (lv' := [(10, .int (nI (q9 + 1))), (5, .int (n3 + nI (cntK (Z9.2.2.1 i9) (q9 + 1)))), (9, .int ((sumK (Z9.2.1 i9) (mVal (runK Z9 (tk + 1) s9 (runS Z9 (tk + 1) E s9).1 i9).1 k9) 6))), (8, .int (nI k9)), (7, .int (nI i9)), (6, .int (nI s9)), (0, .ref (g + 1)), (1, .ref (g + 2)), (2, .ref (g + 3)), (3, .ref (g + 6)), (4, .ref (g + 9))]) hx hb dL_run_206 hl (k := 1) rfl (nI_inc _) (by decide) rfl (fun ls hl => ?_)
                                          refine lv_goto (tgt := 148) hx hb dL_run_209 (by decide) ?_
                                          exact ih148 (q9 + 1) Y5 H3 locs3 (by omega) (by omega) hL hS hE5 hf5 ls (lv_sub hl [0, 2, 3, 1, 4, 5, 6, 7, 8, 9, 10] rfl)
                                        · refine lv_goto (tgt := 206) hx hb dL_run_171 (by decide) ?_
                                          have hE6 : LE Y6 (wkE (sysT (runK Z9 (tk + 1) s9 (runS Z9 (tk + 1) E s9).1 i9).1 (Z9.2.1 i9) (Z9.2.2.1 i9) (tk + 1) (hitB (runS Z9 (tk + 1) E s9).1 ((Z9.2.1 i9) ||| (Z9.2.2.1 i9))) k9) k9 (Z9.2.2.1 i9) (sumK (Z9.2.1 i9) (mVal (runK Z9 (tk + 1) s9 (runS Z9 (tk + 1) E s9).1 i9).1 k9) 6) (tk + 1) (q9 + 1)) := by rw [wkE_f c168]; exact hE6
                                          have hl : lv_has ls 11 [(10, .int (nI q9)), (9, .int ((sumK (Z9.2.1 i9) (mVal (runK Z9 (tk + 1) s9 (runS Z9 (tk + 1) E s9).1 i9).1 k9) 6))), (8, .int (nI k9)), (5, .int (n3 + nI (cntK (Z9.2.2.1 i9) (q9 + 1)))), (7, .int (nI i9)), (6, .int (nI s9)), (0, .ref (g + 1)), (1, .ref (g + 2)), (2, .ref (g + 3)), (3, .ref (g + 6)), (4, .ref (g + 9))] := by
                                            have e9 : (n3 + nI (cntK (Z9.2.2.1 i9) q9)) = (n3 + nI (cntK (Z9.2.2.1 i9) (q9 + 1))) := by rw [cntK_f c168]
                                            first
                                              | (rw [← e9]; exact hl)
                                              | (rw [e9] at hl; exact hl)
                                          refine lv_iinc (v := (nI (q9 + 1))) (lv' := [(10, .int (nI (q9 + 1))), (9, .int ((sumK (Z9.2.1 i9) (mVal (runK Z9 (tk + 1) s9 (runS Z9 (tk + 1) E s9).1 i9).1 k9) 6))), (8, .int (nI k9)), (5, .int (n3 + nI (cntK (Z9.2.2.1 i9) (q9 + 1)))), (7, .int (nI i9)), (6, .int (nI s9)), (0, .ref (g + 1)), (1, .ref (g + 2)), (2, .ref (g + 3)), (3, .ref (g + 6)), (4, .ref (g + 9))]) hx hb dL_run_206 hl (k := 0) rfl (nI_inc _) (by decide) rfl (fun ls hl => ?_)
                                          refine lv_goto (tgt := 148) hx hb dL_run_209 (by decide) ?_
                                          exact ih148 (q9 + 1) Y6 H6 locs6 (by omega) (by omega) hL hS hE6 hf6 ls (lv_sub hl [0, 1, 2, 3, 4, 5, 6, 7, 8, 9, 10] rfl)
                                  exact loop148 ((6 - 0) + 1) 0 Y7 H7 locs7 (Nat.lt_succ_self _) (Nat.zero_le _) hL hS (by rw [wkE_0]; exact hE7) hf7 ls (lv_sub hl [0, 1, 2, 3, 4, 5, 6, 7, 8, 9, 10] rfl)
                                · refine lv_iload hx hb dL_run_112 (lv_at hl 1 rfl) ?_
                                  refine lv_aload_n hx hb dL_run_114 rfl (lv_at hl 9 rfl) ?_
                                  refine lv_iconst (v := nI 3) hx hb dL_run_115 (by decide) ?_
                                  refine lv_iload hx hb dL_run_116 (lv_at hl 4 rfl) ?_
                                  refine y_imul hx hb dL_run_118 ?_
                                  refine n_ld6 (i := 3 * i9) hx hb hK hL (by omega) dL_run_119 ?_
                                  refine x_top (y := (nI ((Z9.2.1 i9)))) (by rw [hf7 6 (by decide) (by decide)]; exact (hZa.2 i9 c30).1) ?_
                                  refine lv_iload hx hb dL_run_120 (lv_at hl 0 rfl) ?_
                                  refine lv_ishr hx hb dL_run_122 ?_
                                  refine lv_iconst (v := nI 1) hx hb dL_run_123 (by decide) ?_
                                  refine lv_iand hx hb dL_run_124 ?_
                                  refine x_top (y := (bI (bitS (Z9.2.1 i9) q9))) (bit_val (Z9.2.1 i9) (iZ.2 i9 c30).1 q9 c109) ?_
                                  refine lv_aload_n hx hb dL_run_125 rfl (lv_at hl 7 rfl) ?_
                                  refine lv_bipush (v := nI 6) hx hb dL_run_126 (by decide) ?_
                                  refine lv_iload hx hb dL_run_128 (lv_at hl 2 rfl) ?_
                                  refine y_imul hx hb dL_run_130 ?_
                                  refine lv_iload hx hb dL_run_131 (lv_at hl 0 rfl) ?_
                                  refine y_iadd hx hb dL_run_133 ?_
                                  refine n_ld2 (i := (6 * k9) + q9) hx hb hK hL (by omega) dL_run_134 ?_
                                  refine x_top (y := (mVal (runK Z9 (tk + 1) s9 (runS Z9 (tk + 1) E s9).1 i9).1 k9 q9)) (by rw [hE7.2.2.2.2.2.1 k9 q9 (by omega) c109]; exact congrFun sysT_val q9) ?_
                                  refine lv_imul hx hb dL_run_135 ?_
                                  refine lv_iadd hx hb dL_run_136 ?_
                                  refine x_top (y := (sumK (Z9.2.1 i9) (mVal (runK Z9 (tk + 1) s9 (runS Z9 (tk + 1) E s9).1 i9).1 k9) (q9 + 1))) (sum_st) ?_
                                  refine lv_istore (lv' := [(9, .int (sumK (Z9.2.1 i9) (mVal (runK Z9 (tk + 1) s9 (runS Z9 (tk + 1) E s9).1 i9).1 k9) (q9 + 1))), (10, .int (nI q9)), (8, .int (nI k9)), (5, .int n3), (7, .int (nI i9)), (6, .int (nI s9)), (0, .ref (g + 1)), (1, .ref (g + 2)), (2, .ref (g + 3)), (3, .ref (g + 6)), (4, .ref (g + 9))]) hx hb dL_run_137 hl (by decide) rfl (fun ls hl => ?_)
                                  refine lv_iinc (v := (nI (q9 + 1))) (lv' := [(10, .int (nI (q9 + 1))), (9, .int (sumK (Z9.2.1 i9) (mVal (runK Z9 (tk + 1) s9 (runS Z9 (tk + 1) E s9).1 i9).1 k9) (q9 + 1))), (8, .int (nI k9)), (5, .int n3), (7, .int (nI i9)), (6, .int (nI s9)), (0, .ref (g + 1)), (1, .ref (g + 2)), (2, .ref (g + 3)), (3, .ref (g + 6)), (4, .ref (g + 9))]) hx hb dL_run_139 hl (k := 1) rfl (nI_inc _) (by decide) rfl (fun ls hl => ?_)
                                  refine lv_goto (tgt := 105) hx hb dL_run_142 (by decide) ?_
                                  exact ih105 (q9 + 1) (by omega) (by omega) ls (lv_sub hl [0, 1, 2, 3, 4, 5, 6, 7, 8, 9, 10] rfl)
                            exact loop105 ((6 - 0) + 1) 0 (Nat.lt_succ_self _) (Nat.zero_le _) ls (lv_sub hl [0, 1, 2, 3, 4, 5, 6, 7, 8, 9, 10] rfl)
                          · have hpk : (hitB (runS Z9 (tk + 1) E s9).1 ((Z9.2.1 i9) ||| (Z9.2.2.1 i9))) k9 = false := by unfold hitB; rw [c63]; cases z : subB (mKd (runS Z9 (tk + 1) E s9).1 k9) ((Z9.2.1 i9) ||| (Z9.2.2.1 i9)); rfl; exact absurd ((bit_nsub _ (hk64 k9) _ (bit_or (Z9.2.1 i9) (iZ.2 i9 c30).1 (Z9.2.2.1 i9) (iZ.2 i9 c30).2.1).2).mpr z) c93
                            refine lv_goto (tgt := 212) hx hb dL_run_96 (by decide) ?_
                            refine lv_iinc (v := (nI (k9 + 1))) (lv' := [(8, .int (nI (k9 + 1))), (5, .int n3), (7, .int (nI i9)), (6, .int (nI s9)), (0, .ref (g + 1)), (1, .ref (g + 2)), (2, .ref (g + 3)), (3, .ref (g + 6)), (4, .ref (g + 9))]) hx hb dL_run_212 hl (k := 0) rfl (nI_inc _) (by decide) rfl (fun ls hl => ?_)
                            refine lv_goto (tgt := 36) hx hb dL_run_215 (by decide) ?_
                            exact ih36 (k9 + 1) n3 Y7 H7 locs7 (by omega) (by omega) hL hS (by rw [sysT_F hpk]; exact hE7) (by rw [hn3, cnt_f hpk]) hf7 ls (lv_sub hl [0, 1, 2, 3, 4, 5, 6, 7, 8] rfl)
                exact loop36 ((10 - 0) + 1) 0 n2 Y8 H8 locs8 (Nat.lt_succ_self _) (Nat.zero_le _) hL hS (by rw [sysT_0]; exact hE8) (by show n2 = n2 + nI (0 * _); rw [Nat.zero_mul]; exact (Int32.add_zero _).symm) hf8 ls (lv_sub hl [0, 2, 1, 3, 4, 5, 6, 7, 8] rfl)
              · refine lv_iconst (v := nI 0) hx hb dL_run_33 (by decide) ?_
                refine lv_istore (lv' := [(8, .int (nI 0)), (7, .int (nI i9)), (5, .int n2), (6, .int (nI s9)), (0, .ref (g + 1)), (1, .ref (g + 2)), (2, .ref (g + 3)), (3, .ref (g + 6)), (4, .ref (g + 9))]) hx hb dL_run_34 hl (by decide) rfl (fun ls hl => ?_)
                refine lv_iload hx hb dL_run_36 (lv_at hl 0 rfl) ?_
                refine lv_bipush (v := nI 10) hx hb dL_run_38 (by decide) ?_
                refine y_icmp_ge hx hb (by decide) (by decide) (tgt := 218) dL_run_40 (by decide) (fun c40 => ?_) (fun c40 => ?_)
                · exact absurd c40 (by decide)
                · refine lv_aload_n hx hb dL_run_43 rfl (lv_at hl 7 rfl) ?_
                  refine lv_iconst (v := nI 3) hx hb dL_run_44 (by decide) ?_
                  refine lv_iload hx hb dL_run_45 (lv_at hl 1 rfl) ?_
                  refine y_imul hx hb dL_run_47 ?_
                  refine lv_iconst (v := nI 2) hx hb dL_run_48 (by decide) ?_
                  refine y_iadd hx hb dL_run_49 ?_
                  refine n_ld6 (i := (3 * i9) + 2) hx hb hK hL (by omega) dL_run_50 ?_
                  refine x_top (y := (nI (Z9.2.2.2 i9))) (by rw [hf8 6 (by decide) (by decide)]; exact (hZa.2 i9 c30).2.2) ?_
                  have hs9 := (iZ.2 i9 c30).2.2
                  refine lv_iload hx hb dL_run_51 (lv_at hl 3 rfl) ?_
                  refine y_icmp_ne hx hb (by omega) (by omega) (tgt := 218) dL_run_53 (by decide) (fun c53 => ?_) (fun c53 => ?_)
                  · refine lv_iinc (v := (nI (i9 + 1))) (lv' := [(7, .int (nI (i9 + 1))), (8, .int (nI 0)), (5, .int n2), (6, .int (nI s9)), (0, .ref (g + 1)), (1, .ref (g + 2)), (2, .ref (g + 3)), (3, .ref (g + 6)), (4, .ref (g + 9))]) hx hb dL_run_218 hl (k := 1) rfl (nI_inc _) (by decide) rfl (fun ls hl => ?_)
                    refine lv_goto (tgt := 24) hx hb dL_run_221 (by decide) ?_
                    exact ih24 (i9 + 1) n2 Y8 H8 locs8 (by omega) (by omega) hL hS (by rw [runK_f hsg]; exact hE8) (by rw [hn2, runK_f hsg]) hf8 ls (lv_sub hl [0, 2, 3, 4, 5, 6, 7, 8] rfl)
                  · exact absurd c53 hsg
        exact loop24 ((Z9.1 - 0) + 1) 0 n1 Y9 H9 locs9 (Nat.lt_succ_self _) (Nat.zero_le _) hL hS hE9 (Int32.add_zero _).symm hf9 ls (lv_sub hl [0, 2, 1, 3, 4, 5, 6, 7] rfl)
  exact loop14 ((8 - 0) + 1) 0 (nI 0) Ya H1 locs1 (Nat.lt_succ_self _) (Nat.zero_le _) hL hS hEa rfl (fun j _ _ => rfl) ls (lv_sub hl [0, 1, 2, 3, 4, 5, 6] rfl)

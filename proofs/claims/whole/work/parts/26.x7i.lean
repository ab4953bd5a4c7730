set_option maxRecDepth 100000 in
theorem in_X7_runsOn_RX7 : ∀ w ∈ wsX70, w ∈ wsX7_runsOn := by decide +kernel
set_option maxHeartbeats 4000000 in
set_option maxRecDepth 100000 in
theorem c_X7_runsOn (l : Launch) {D : va_G} {T : Nat → ClassId} {dE mi : Nat} {g : Nat} {S : Nat → Int32} {Y : Nat → Nat → Int32} {H : Heap} (hR : RM D T g S Y H) {E : mE} (hE : RelE Y E) {Z : mQ} (hZ : RelY S Y Z) (iZ : InvY Z) {q k : Nat} (hq : q < Z.1) (hk : k < 32) : vx_Met l yX7_runsOn wsX7_runsOn (rmL 0 0 0) (PcE D T dE mi (AM g) H [.ref g, .int (nI q), .int (nI k)]) (QI (AM g) (fun r H1 => r = nI (cntK (Z.2.2.1 q) 6) ∧ ∃ Y1, RM D T g S Y1 H1 ∧ RelE Y1 (wkE E k (Z.2.2.1 q) (sumK (Z.2.1 q) (mVal E k) 6) (S 1) 6) ∧ ∀ j, 7 ≤ j → Y1 j = Y j)) (XX (AM g) (XN)) 0 0 (AM g) := by
  refine entry (cc := cX7_runsOn) (maxL := 6) (ret := (some .int)) (by decide) rfl (Nat.le_of_ble_eq_true rfl) ?_
  intro p e s m args below meth c hx hb hrt9 hml hown hts hlk hnt hnm hev hS ls hl
  have hown : s.vm.findClass RX7 = some m.cls := hown
  have hK := hev.1
  have hl : lv_has ls 6 [(0, .ref g), (1, .int (nI q)), (2, .int (nI k))] := hl
  have h88 := iZ.1
  obtain ⟨q19, q20, -⟩ := hZ.2 q hq
  obtain ⟨b19, b20, -⟩ := iZ.2 q hq
  refine lv_iconst (v := nI 1) hx hb dX7_runsOn_0 (by decide) ?_
  refine lv_istore_n (lv' := [(3, .int (nI 1)), (0, .ref g), (1, .int (nI q)), (2, .int (nI k))]) hx hb dX7_runsOn_1 rfl hl (by decide) rfl (fun ls hl => ?_)
  refine lv_iconst (v := nI 0) hx hb dX7_runsOn_2 (by decide) ?_
  refine lv_istore (lv' := [(4, .int (nI 0)), (3, .int (nI 1)), (0, .ref g), (1, .int (nI q)), (2, .int (nI k))]) hx hb dX7_runsOn_3 hl (by decide) rfl (fun ls hl => ?_)
  refine lv_iconst (v := nI 0) hx hb dX7_runsOn_5 (by decide) ?_
  refine lv_istore (lv' := [(5, .int (nI 0)), (4, .int (nI 0)), (3, .int (nI 1)), (0, .ref g), (1, .int (nI q)), (2, .int (nI k))]) hx hb dX7_runsOn_6 hl (by decide) rfl (fun ls hl => ?_)
  have loop8 : ∀ (n : Nat) (i : Nat), 6 - i < n → (i ≤ 6) → ∀ (ls : Array Slot), lv_has ls 6 [(5, .int (nI i)), (4, .int (nI 0)), (3, .int ((sumK (Z.2.1 q) (mVal E k) i))), (0, .ref g), (1, .int (nI q)), (2, .int (nI k))] → W p l e (rmL 0 0 0) s m args below meth c H [] (0) (0) (vx_MQ below (QI (AM g) (fun r H1 => r = nI (cntK (Z.2.2.1 q) 6) ∧ ∃ Y1, RM D T g S Y1 H1 ∧ RelE Y1 (wkE E k (Z.2.2.1 q) (sumK (Z.2.1 q) (mVal E k) 6) (S 1) 6) ∧ ∀ j, 7 ≤ j → Y1 j = Y j)) (XX (AM g) (XN)) args s 0 0 (AM g)) (F0 m 8 ls []) := by
    intro n
    induction n with
    | zero => intro i hfuel; exact absurd hfuel (Nat.not_lt_zero _)
    | succ n ih8 =>
      intro i hfuel hi ls hl
      refine lv_iload hx hb dX7_runsOn_8 (lv_at hl 0 rfl) ?_
      refine lv_bipush (v := nI 6) hx hb dX7_runsOn_10 (by decide) ?_
      refine y_icmp_ge hx hb (by omega) (Nat.le_of_ble_eq_true rfl) (tgt := 55) dX7_runsOn_12 (by decide) (fun c12 => ?_) (fun c12 => ?_)
      · have hl : lv_has ls 6 [(5, .int (nI i)), (4, .int (nI 0)), (3, .int ((sumK (Z.2.1 q) (mVal E k) 6))), (0, .ref g), (1, .int (nI q)), (2, .int (nI k))] := by
          have e9 : ((sumK (Z.2.1 q) (mVal E k) i)) = ((sumK (Z.2.1 q) (mVal E k) 6)) := by rw [show i = 6 by omega]
          rw [← e9]; exact hl
        refine lv_iconst (v := nI 0) hx hb dX7_runsOn_55 (by decide) ?_
        refine lv_istore (lv' := [(5, .int (nI 0)), (4, .int (nI 0)), (3, .int ((sumK (Z.2.1 q) (mVal E k) 6))), (0, .ref g), (1, .int (nI q)), (2, .int (nI k))]) hx hb dX7_runsOn_56 hl (by decide) rfl (fun ls hl => ?_)
        have loop58 : ∀ (n : Nat) (i : Nat) (Y9 : Nat → Nat → Int32) (H9 : Heap) (locs9 : List Loc), 6 - i < n → (i ≤ 6) → (RelE Y9 (wkE E k (Z.2.2.1 q) (sumK (Z.2.1 q) (mVal E k) 6) (S 1) i)) → (∀ j, 7 ≤ j → Y9 j = Y j) → (RM D T g S Y9 H9) → (va_S (AM g) s.heap H9 locs9) → ∀ (ls : Array Slot), lv_has ls 6 [(5, .int (nI i)), (4, .int (nI (cntK (Z.2.2.1 q) i))), (3, .int ((sumK (Z.2.1 q) (mVal E k) 6))), (0, .ref g), (1, .int (nI q)), (2, .int (nI k))] → W p l e (rmL 0 0 0) s m args below meth c H9 locs9 (0) (0) (vx_MQ below (QI (AM g) (fun r H1 => r = nI (cntK (Z.2.2.1 q) 6) ∧ ∃ Y1, RM D T g S Y1 H1 ∧ RelE Y1 (wkE E k (Z.2.2.1 q) (sumK (Z.2.1 q) (mVal E k) 6) (S 1) 6) ∧ ∀ j, 7 ≤ j → Y1 j = Y j)) (XX (AM g) (XN)) args s 0 0 (AM g)) (F0 m 58 ls []) := by
          intro n
          induction n with
          | zero => intro i Y9 H9 locs9 hfuel; exact absurd hfuel (Nat.not_lt_zero _)
          | succ n ih58 =>
            intro i Y9 H9 locs9 hfuel hi hE9 hY9 hR hS ls hl
            refine lv_iload hx hb dX7_runsOn_58 (lv_at hl 0 rfl) ?_
            refine lv_bipush (v := nI 6) hx hb dX7_runsOn_60 (by decide) ?_
            refine y_icmp_ge hx hb (by omega) (Nat.le_of_ble_eq_true rfl) (tgt := 121) dX7_runsOn_62 (by decide) (fun c62 => ?_) (fun c62 => ?_)
            · refine lv_iload hx hb dX7_runsOn_121 (lv_at hl 1 rfl) ?_
              exact r_i hx hb hrt9 hlk hS (Nat.le_of_ble_eq_true rfl) (Nat.le_of_ble_eq_true rfl) dX7_runsOn_123 (⟨by rw [show i = 6 by omega], Y9, hR, by rw [show i = 6 by omega] at hE9; exact hE9, hY9⟩)
            · have hi6 : i < 6 := c62
              refine lv_aload_n hx hb dX7_runsOn_65 rfl (lv_at hl 3 rfl) ?_
              refine m_get hx hb hts in_X7_runsOn_RX7 hown hK hR 27 (by decide) (hts (.fieldLink RX7 68 "ArcheloftModel" "writes" "[I") (by decide +kernel)) rfl (v := .ref (g + 20)) rfl dX7_runsOn_66 ?_
              refine lv_iload_n hx hb dX7_runsOn_69 rfl (lv_at hl 4 rfl) ?_
              refine m_ld20 (i := q) hx hb hK hR (by omega) dX7_runsOn_70 ?_
              refine x_top (y := (nI ((Z.2.2.1 q)))) ((congrFun (hY9 20 (by decide)) q).trans q20) ?_
              refine lv_iload hx hb dX7_runsOn_71 (lv_at hl 0 rfl) ?_
              refine lv_ishr hx hb dX7_runsOn_73 ?_
              refine lv_iconst (v := nI 1) hx hb dX7_runsOn_74 (by decide) ?_
              refine lv_iand hx hb dX7_runsOn_75 ?_
              refine lv_iconst (v := nI 1) hx hb dX7_runsOn_76 (by decide) ?_
              refine lv_icmp_ne (tgt := 115) hx hb dX7_runsOn_77 (by decide) (fun c77 => ?_) (fun c77 => ?_)
              · have hl : lv_has ls 6 [(5, .int (nI i)), (4, .int (nI (cntK (Z.2.2.1 q) (i + 1)))), (3, .int ((sumK (Z.2.1 q) (mVal E k) 6))), (0, .ref g), (1, .int (nI q)), (2, .int (nI k))] := by
                  have e9 : (nI (cntK (Z.2.2.1 q) i)) = (nI (cntK (Z.2.2.1 q) (i + 1))) := by rw [cntK_f (bitS_f (fun z => c77 ((bit_has (Z.2.2.1 q) b20 i hi6).mpr z)))]
                  rw [← e9]; exact hl
                have hE10 : RelE Y9 (wkE E k (Z.2.2.1 q) (sumK (Z.2.1 q) (mVal E k) 6) (S 1) (i + 1)) := by rw [wkE_f (bitS_f (fun z => c77 ((bit_has (Z.2.2.1 q) b20 i hi6).mpr z)))]; exact hE9
                have hY10 : ∀ j, 7 ≤ j → Y9 j = Y j := hY9
                refine lv_iinc (v := (nI (i + 1))) (lv' := [(5, .int (nI (i + 1))), (4, .int (nI (cntK (Z.2.2.1 q) (i + 1)))), (3, .int ((sumK (Z.2.1 q) (mVal E k) 6))), (0, .ref g), (1, .int (nI q)), (2, .int (nI k))]) hx hb dX7_runsOn_115 hl (k := 0) rfl (nI_inc _) (by decide) rfl (fun ls hl => ?_)
                refine lv_goto (tgt := 58) hx hb dX7_runsOn_118 (by decide) ?_
                exact ih58 (i + 1) Y9 H9 locs9 (by omega) (by omega) hE10 hY10 hR hS ls (lv_sub hl [0, 1, 2, 3, 4, 5] rfl)
              · refine lv_aload_n hx hb dX7_runsOn_80 rfl (lv_at hl 3 rfl) ?_
                refine m_get hx hb hts in_X7_runsOn_RX7 hown hK hR 6 (by decide) (hts (.fieldLink RX7 23 "ArcheloftModel" "values" "[I") (by decide +kernel)) rfl (v := .ref (g + 5)) rfl dX7_runsOn_81 ?_
                refine lv_bipush (v := nI 6) hx hb dX7_runsOn_84 (by decide) ?_
                refine lv_iload_n hx hb dX7_runsOn_86 rfl (lv_at hl 5 rfl) ?_
                refine y_imul hx hb dX7_runsOn_87 ?_
                refine lv_iload hx hb dX7_runsOn_88 (lv_at hl 0 rfl) ?_
                refine y_iadd hx hb dX7_runsOn_90 ?_
                refine lv_dup2_11 hx hb dX7_runsOn_91 rfl rfl ?_
                refine m_ld5 (i := (6 * k) + i) hx hb hK hR (by omega) dX7_runsOn_92 ?_
                refine x_top (y := ((mVal E k i))) ((hE9.2.2.2.2.1 k i hk hi6).trans wkE_v) ?_
                refine lv_iload_n hx hb dX7_runsOn_93 rfl (lv_at hl 2 rfl) ?_
                refine lv_iadd hx hb dX7_runsOn_94 ?_
                refine m_st5 (i := (6 * k) + i) (v := (((mVal E k i)) + ((sumK (Z.2.1 q) (mVal E k) 6)))) hx hb hK hS hR (by omega) dX7_runsOn_95 (fun H1 locs1 hR hS => ?_)
                refine lv_aload_n hx hb dX7_runsOn_96 rfl (lv_at hl 3 rfl) ?_
                refine m_get hx hb hts in_X7_runsOn_RX7 hown hK hR 7 (by decide) (hts (.fieldLink RX7 26 "ArcheloftModel" "marks" "[I") (by decide +kernel)) rfl (v := .ref (g + 6)) rfl dX7_runsOn_97 ?_
                refine lv_bipush (v := nI 6) hx hb dX7_runsOn_100 (by decide) ?_
                refine lv_iload_n hx hb dX7_runsOn_102 rfl (lv_at hl 5 rfl) ?_
                refine y_imul hx hb dX7_runsOn_103 ?_
                refine lv_iload hx hb dX7_runsOn_104 (lv_at hl 0 rfl) ?_
                refine y_iadd hx hb dX7_runsOn_106 ?_
                refine lv_aload_n hx hb dX7_runsOn_107 rfl (lv_at hl 3 rfl) ?_
                refine m_get hx hb hts in_X7_runsOn_RX7 hown hK hR 1 (by decide) (hts (.fieldLink RX7 95 "ArcheloftModel" "tick" "I") (by decide +kernel)) rfl (v := .int (S 1)) rfl dX7_runsOn_108 ?_
                refine m_st6 (i := (6 * k) + i) (v := (S 1)) hx hb hK hS hR (by omega) dX7_runsOn_111 (fun H2 locs2 hR hS => ?_)
                refine lv_iinc (v := (nI (cntK (Z.2.2.1 q) i + 1))) (lv' := [(4, .int (nI (cntK (Z.2.2.1 q) i + 1))), (5, .int (nI i)), (3, .int ((sumK (Z.2.1 q) (mVal E k) 6))), (0, .ref g), (1, .int (nI q)), (2, .int (nI k))]) hx hb dX7_runsOn_112 hl (k := 1) rfl (nI_inc _) (by decide) rfl (fun ls hl => ?_)
                have hl : lv_has ls 6 [(4, .int (nI (cntK (Z.2.2.1 q) (i + 1)))), (5, .int (nI i)), (3, .int ((sumK (Z.2.1 q) (mVal E k) 6))), (0, .ref g), (1, .int (nI q)), (2, .int (nI k))] := by
                  have e9 : (nI (cntK (Z.2.2.1 q) i + 1)) = (nI (cntK (Z.2.2.1 q) (i + 1))) := by rw [cntK_t ((bit_has (Z.2.2.1 q) b20 i hi6).mp c77)]
                  rw [← e9]; exact hl
                have hE10 : RelE (up2 (up2 Y9 5 (upd (Y9 5) ((6 * k) + i) (((mVal E k i)) + ((sumK (Z.2.1 q) (mVal E k) 6))))) 6 (upd ((up2 Y9 5 (upd (Y9 5) ((6 * k) + i) (((mVal E k i)) + ((sumK (Z.2.1 q) (mVal E k) 6))))) 6) ((6 * k) + i) (S 1))) (wkE E k (Z.2.2.1 q) (sumK (Z.2.1 q) (mVal E k) 6) (S 1) (i + 1)) := by
                  rw [← wkE_t ((bit_has (Z.2.2.1 q) b20 i hi6).mp c77)]
                  exact relE_put hE9 hk hi6 (fun _ => rfl) (fun _ => rfl) (fun j hj => by simp only [up2]; rw [if_neg (by omega), if_neg (by omega)])
                have hY10 : ∀ j, 7 ≤ j → (up2 (up2 Y9 5 (upd (Y9 5) ((6 * k) + i) (((mVal E k i)) + ((sumK (Z.2.1 q) (mVal E k) 6))))) 6 (upd ((up2 Y9 5 (upd (Y9 5) ((6 * k) + i) (((mVal E k i)) + ((sumK (Z.2.1 q) (mVal E k) 6))))) 6) ((6 * k) + i) (S 1))) j = Y j := fun j hj => by
                  simp only [up2]
                  rw [if_neg (by omega), if_neg (by omega)]
                  exact hY9 j hj
                refine lv_iinc (v := (nI (i + 1))) (lv' := [(5, .int (nI (i + 1))), (4, .int (nI (cntK (Z.2.2.1 q) (i + 1)))), (3, .int ((sumK (Z.2.1 q) (mVal E k) 6))), (0, .ref g), (1, .int (nI q)), (2, .int (nI k))]) hx hb dX7_runsOn_115 hl (k := 1) rfl (nI_inc _) (by decide) rfl (fun ls hl => ?_)
                refine lv_goto (tgt := 58) hx hb dX7_runsOn_118 (by decide) ?_
                exact ih58 (i + 1) (up2 (up2 Y9 5 (upd (Y9 5) ((6 * k) + i) (((mVal E k i)) + ((sumK (Z.2.1 q) (mVal E k) 6))))) 6 (upd ((up2 Y9 5 (upd (Y9 5) ((6 * k) + i) (((mVal E k i)) + ((sumK (Z.2.1 q) (mVal E k) 6))))) 6) ((6 * k) + i) (S 1))) H2 locs2 (by omega) (by omega) hE10 hY10 hR hS ls (lv_sub hl [0, 1, 2, 3, 4, 5] rfl)
        exact loop58 (6 + 1) 0 Y H [] (Nat.lt_succ_self _) (by omega) (by rw [wkE_0]; exact hE) (fun _ _ => rfl) hR hS ls (lv_sub hl [0, 1, 2, 3, 4, 5] rfl)
      · have hi6 : i < 6 := c12
        refine lv_iload_n hx hb dX7_runsOn_15 rfl (lv_at hl 2 rfl) ?_
        refine lv_aload_n hx hb dX7_runsOn_16 rfl (lv_at hl 3 rfl) ?_
        refine m_get hx hb hts in_X7_runsOn_RX7 hown hK hR 26 (by decide) (hts (.fieldLink RX7 65 "ArcheloftModel" "reads" "[I") (by decide +kernel)) rfl (v := .ref (g + 19)) rfl dX7_runsOn_17 ?_
        refine lv_iload_n hx hb dX7_runsOn_20 rfl (lv_at hl 4 rfl) ?_
        refine m_ld19 (i := q) hx hb hK hR (by omega) dX7_runsOn_21 ?_
        refine x_top (y := (nI ((Z.2.1 q)))) (q19) ?_
        refine lv_iload hx hb dX7_runsOn_22 (lv_at hl 0 rfl) ?_
        refine lv_ishr hx hb dX7_runsOn_24 ?_
        refine lv_iconst (v := nI 1) hx hb dX7_runsOn_25 (by decide) ?_
        refine lv_iand hx hb dX7_runsOn_26 ?_
        refine lv_iconst (v := nI 1) hx hb dX7_runsOn_27 (by decide) ?_
        refine lv_icmp_ne (tgt := 46) hx hb dX7_runsOn_28 (by decide) (fun c28 => ?_) (fun c28 => ?_)
        · refine lv_iconst (v := nI 0) hx hb dX7_runsOn_46 (by decide) ?_
          refine lv_iadd hx hb dX7_runsOn_47 ?_
          refine x_top (y := ((sumK (Z.2.1 q) (mVal E k) (i + 1)))) (by rw [sumK_f (bitS_f (fun z => c28 ((bit_has (Z.2.1 q) b19 i hi6).mpr z))), add0]) ?_
          refine lv_istore_n (lv' := [(3, .int ((sumK (Z.2.1 q) (mVal E k) (i + 1)))), (5, .int (nI i)), (4, .int (nI 0)), (0, .ref g), (1, .int (nI q)), (2, .int (nI k))]) hx hb dX7_runsOn_48 rfl hl (by decide) rfl (fun ls hl => ?_)
          refine lv_iinc (v := (nI (i + 1))) (lv' := [(5, .int (nI (i + 1))), (3, .int ((sumK (Z.2.1 q) (mVal E k) (i + 1)))), (4, .int (nI 0)), (0, .ref g), (1, .int (nI q)), (2, .int (nI k))]) hx hb dX7_runsOn_49 hl (k := 1) rfl (nI_inc _) (by decide) rfl (fun ls hl => ?_)
          refine lv_goto (tgt := 8) hx hb dX7_runsOn_52 (by decide) ?_
          exact ih8 (i + 1) (by omega) (by omega) ls (lv_sub hl [0, 2, 1, 3, 4, 5] rfl)
        · refine lv_aload_n hx hb dX7_runsOn_31 rfl (lv_at hl 3 rfl) ?_
          refine m_get hx hb hts in_X7_runsOn_RX7 hown hK hR 6 (by decide) (hts (.fieldLink RX7 23 "ArcheloftModel" "values" "[I") (by decide +kernel)) rfl (v := .ref (g + 5)) rfl dX7_runsOn_32 ?_
          refine lv_bipush (v := nI 6) hx hb dX7_runsOn_35 (by decide) ?_
          refine lv_iload_n hx hb dX7_runsOn_37 rfl (lv_at hl 5 rfl) ?_
          refine y_imul hx hb dX7_runsOn_38 ?_
          refine lv_iload hx hb dX7_runsOn_39 (lv_at hl 0 rfl) ?_
          refine y_iadd hx hb dX7_runsOn_41 ?_
          refine m_ld5 (i := (6 * k) + i) hx hb hK hR (by omega) dX7_runsOn_42 ?_
          refine x_top (y := ((mVal E k i))) (hE.2.2.2.2.1 k i hk hi6) ?_
          refine lv_goto (tgt := 47) hx hb dX7_runsOn_43 (by decide) ?_
          refine lv_iadd hx hb dX7_runsOn_47 ?_
          refine x_top (y := ((sumK (Z.2.1 q) (mVal E k) (i + 1)))) (by rw [sumK_t ((bit_has (Z.2.1 q) b19 i hi6).mp c28)]) ?_
          refine lv_istore_n (lv' := [(3, .int ((sumK (Z.2.1 q) (mVal E k) (i + 1)))), (5, .int (nI i)), (4, .int (nI 0)), (0, .ref g), (1, .int (nI q)), (2, .int (nI k))]) hx hb dX7_runsOn_48 rfl hl (by decide) rfl (fun ls hl => ?_)
          refine lv_iinc (v := (nI (i + 1))) (lv' := [(5, .int (nI (i + 1))), (3, .int ((sumK (Z.2.1 q) (mVal E k) (i + 1)))), (4, .int (nI 0)), (0, .ref g), (1, .int (nI q)), (2, .int (nI k))]) hx hb dX7_runsOn_49 hl (k := 1) rfl (nI_inc _) (by decide) rfl (fun ls hl => ?_)
          refine lv_goto (tgt := 8) hx hb dX7_runsOn_52 (by decide) ?_
          exact ih8 (i + 1) (by omega) (by omega) ls (lv_sub hl [0, 2, 1, 3, 4, 5] rfl)
  exact loop8 (6 + 1) 0 (Nat.lt_succ_self _) (by omega) ls (lv_sub hl [0, 1, 2, 3, 4, 5] rfl)
set_option maxRecDepth 100000 in
theorem in_X7_run_RX7 : ∀ w ∈ wsX70, w ∈ wsX7_run := by decide +kernel
set_option maxHeartbeats 4000000 in
set_option maxRecDepth 100000 in
theorem c_X7_run (l : Launch) {D : va_G} {T : Nat → ClassId} {dE mi : Nat} {g : Nat} {S : Nat → Int32} {Y : Nat → Nat → Int32} {H : Heap} (hR : RM D T g S Y H) {M : mSt} (hM : Rel S Y M) {b : Nat} (hI : Inv b M) : vx_Met l yX7_run wsX7_run (rmL 1 0 0) (PcE D T dE mi (AM g) H [.ref g]) (QI (AM g) (fun r H1 => PM D T g (oRun M) r H1)) (XX (AM g) (XN)) 0 0 (AM g) := by
  refine entry (cc := cX7_run) (maxL := 6) (ret := (some .int)) (by decide) rfl (Nat.le_of_ble_eq_true rfl) ?_
  intro p e s m args below meth c hx hb hrt9 hml hown hts hlk hnt hnm hev hS ls hl
  have hown : s.vm.findClass RX7 = some m.cls := hown
  have hK := hev.1
  have hl : lv_has ls 6 [(0, .ref g)] := hl
  obtain ⟨hT, hE, hRw, hQ, hW, hY⟩ := id hM
  obtain ⟨iE, iR, iQ, iW, iY, hb9, hh⟩ := id hI
  have hb0 : b ≤ 1000000 := Nat.le_trans hb9 (by decide)
  have h88 := iY.1
  refine lv_aload_n hx hb dX7_run_0 rfl (lv_at hl 0 rfl) ?_
  refine lv_aload_n hx hb dX7_run_1 rfl (lv_at hl 0 rfl) ?_
  refine m_get hx hb hts in_X7_run_RX7 hown hK hR 17 (by decide) (hts (.fieldLink RX7 102 "ArcheloftModel" "isWalking" "Z") (by decide +kernel)) rfl (v := .int (S 17)) rfl dX7_run_2 ?_
  refine x_top (y := (bI (wOn (sW M)))) (hW.1) ?_
  refine y_bif_eq hx hb (tgt := 12) dX7_run_5 (by decide) (fun c5 => ?_) (fun c5 => ?_)
  · have ho : oRun M = (0, (runS (sY M) (sT M + 1) (sE M) (stgs (sY M) (sY M).1)).2, ((runS (sY M) (sT M + 1) (sE M) (stgs (sY M) (sY M).1)).1, sR M, sQ M, sW M, sY M, sT M + 1)) := if_neg (by rw [c5]; decide)
    refine lv_iconst (v := nI 0) hx hb dX7_run_12 (by decide) ?_
    refine m_put0 (v := (nI 0)) hx hb hts in_X7_run_RX7 hown hK hS hR (hts (.fieldLink RX7 77 "ArcheloftModel" "thrown" "I") (by decide +kernel)) dX7_run_13 (fun H1 locs1 hR hS => ?_)
    refine lv_aload_n hx hb dX7_run_16 rfl (lv_at hl 0 rfl) ?_
    refine m_get hx hb hts in_X7_run_RX7 hown hK hR 0 (by decide) (hts (.fieldLink RX7 77 "ArcheloftModel" "thrown" "I") (by decide +kernel)) rfl (v := .int (nI 0)) rfl dX7_run_17 ?_
    refine y_if_le hx hb (by decide) (tgt := 25) dX7_run_20 (by decide) (fun c20 => ?_) (fun c20 => ?_)
    · refine lv_aload_n hx hb dX7_run_25 rfl (lv_at hl 0 rfl) ?_
      refine lv_dup hx hb dX7_run_26 rfl ?_
      refine m_get hx hb hts in_X7_run_RX7 hown hK hR 1 (by decide) (hts (.fieldLink RX7 95 "ArcheloftModel" "tick" "I") (by decide +kernel)) rfl (v := .int (S 1)) rfl dX7_run_27 ?_
      refine x_top (y := ((sT M))) (hT) ?_
      refine lv_iconst (v := nI 1) hx hb dX7_run_30 (by decide) ?_
      refine lv_iadd hx hb dX7_run_31 ?_
      refine x_top (y := ((sT M + 1))) (rfl) ?_
      refine m_put1 (v := ((sT M + 1))) hx hb hts in_X7_run_RX7 hown hK hS hR (hts (.fieldLink RX7 95 "ArcheloftModel" "tick" "I") (by decide +kernel)) dX7_run_32 (fun H2 locs2 hR hS => ?_)
      refine lv_iconst (v := nI 0) hx hb dX7_run_35 (by decide) ?_
      refine lv_istore_n (lv' := [(1, .int (nI 0)), (0, .ref g)]) hx hb dX7_run_36 rfl hl (by decide) rfl (fun ls hl => ?_)
      refine lv_iconst (v := nI 0) hx hb dX7_run_37 (by decide) ?_
      refine lv_istore_n (lv' := [(2, .int (nI 0)), (1, .int (nI 0)), (0, .ref g)]) hx hb dX7_run_38 rfl hl (by decide) rfl (fun ls hl => ?_)
      have loop39 : ∀ (n : Nat) (sg : Nat) (Y9 : Nat → Nat → Int32) (H9 : Heap) (locs9 : List Loc), stgs (sY M) (sY M).1 - sg < n → (sg ≤ stgs (sY M) (sY M).1) → (RelE Y9 (runS (sY M) (sT M + 1) (sE M) sg).1) → (∀ j, 7 ≤ j → Y9 j = Y j) → (RM D T g (upd (upd S 0 (nI 0)) 1 (sT M + 1)) Y9 H9) → (va_S (AM g) s.heap H9 locs9) → ∀ (ls : Array Slot), lv_has ls 6 [(2, .int (nI sg)), (1, .int ((runS (sY M) (sT M + 1) (sE M) sg).2)), (0, .ref g)] → W p l e (rmL 1 0 0) s m args below meth c H9 locs9 (0) (0) (vx_MQ below (QI (AM g) (fun r H1 => PM D T g (oRun M) r H1)) (XX (AM g) (XN)) args s 0 0 (AM g)) (F0 m 39 ls []) := by
        intro n
        induction n with
        | zero => intro sg Y9 H9 locs9 hfuel; exact absurd hfuel (Nat.not_lt_zero _)
        | succ n ih39 =>
          intro sg Y9 H9 locs9 hfuel hsg9 hE9 hY9 hR hS ls hl
          refine lv_iload_n hx hb dX7_run_39 rfl (lv_at hl 0 rfl) ?_
          refine lv_aload_n hx hb dX7_run_40 rfl (lv_at hl 2 rfl) ?_
          refine k_ip (k_V (As := []) (rest := [.int (nI sg)]) ⟨hx, hb, hml, hown, hts⟩ hev hS (c_X7_manyStages l hR (Z := sY M) (hY.cong rfl (fun j h1 h2 => hY9 j (by omega))) iY) (cwV 0 hts gX7_run_X7_manyStages rfl rfl rfl (by decide +kernel) ⟨Nat.le_of_ble_eq_true rfl, Nat.le_of_ble_eq_true rfl⟩) (x_recv hK hR.1 rfl) rfl hl.1 (Nat.le_of_ble_eq_true rfl) dX7_run_41 (Nat.le_of_ble_eq_true rfl) (Nat.le_of_ble_eq_true rfl)) hS hnt hlk (fun _ _ h _ => h.elim) (Nat.le_of_ble_eq_true rfl) (Nat.le_of_ble_eq_true rfl) (fun rq3_ H3 locs3 hP hz3 hS => ?_)
          refine W.widen (k := 0) (n := 0) (Nat.le_refl _) (Nat.le_refl _) ?_
          have hR : RM D T g (upd (upd S 0 (nI 0)) 1 ((sT M + 1))) Y9 H3 := by rw [hP.1]; exact hR
          have er5 := hP.2
          refine x_top (y := (nI (stgs (sY M) (sY M).1))) (er5) ?_
          have hsle := stgs_le iY (sY M).1 (Nat.le_refl _)
          refine y_icmp_ge hx hb (by omega) (by omega) (tgt := 149) dX7_run_44 (by decide) (fun c44 => ?_) (fun c44 => ?_)
          · refine lv_iload_n hx hb dX7_run_149 rfl (lv_at hl 1 rfl) ?_
            exact r_i hx hb hrt9 hlk hS (Nat.le_of_ble_eq_true rfl) (Nat.le_of_ble_eq_true rfl) dX7_run_150 (by
                  have es : sg = stgs (sY M) (sY M).1 := by omega
                  rw [es] at hE9
                  rw [ho]
                  exact PM.ok hR ⟨rfl, hE9, hRw.cong rfl (fun j h1 h2 => hY9 j (by omega)), hQ.cong rfl (fun j h1 h2 => hY9 j (by omega)), ⟨hW.1, fun z => by have z2 : wOn (sW M) = true := z; rw [c5] at z2; cases z2⟩, hY.cong rfl (fun j h1 h2 => hY9 j (by omega))⟩ rfl (by rw [es]))
          · have hl : lv_has ls 6 [(2, .int (nI sg)), (1, .int (((runS (sY M) (sT M + 1) (sE M) sg).2 + (runK (sY M) (sT M + 1) sg (runS (sY M) (sT M + 1) (sE M) sg).1 0).2))), (0, .ref g)] := by
              have e9 : ((runS (sY M) (sT M + 1) (sE M) sg).2) = (((runS (sY M) (sT M + 1) (sE M) sg).2 + (runK (sY M) (sT M + 1) sg (runS (sY M) (sT M + 1) (sE M) sg).1 0).2)) := by rw [show (runK (sY M) (sT M + 1) sg (runS (sY M) (sT M + 1) (sE M) sg).1 0).2 = nI 0 from rfl, add0]
              rw [← e9]; exact hl
            refine lv_iconst (v := nI 0) hx hb dX7_run_47 (by decide) ?_
            refine lv_istore_n (lv' := [(3, .int (nI 0)), (2, .int (nI sg)), (1, .int (((runS (sY M) (sT M + 1) (sE M) sg).2 + (runK (sY M) (sT M + 1) sg (runS (sY M) (sT M + 1) (sE M) sg).1 0).2))), (0, .ref g)]) hx hb dX7_run_48 rfl hl (by decide) rfl (fun ls hl => ?_)
            have loop49 : ∀ (n : Nat) (q : Nat) (Y9 : Nat → Nat → Int32) (H9 : Heap) (locs9 : List Loc), (sY M).1 - q < n → (q ≤ (sY M).1) → (RelE Y9 (runK (sY M) (sT M + 1) sg (runS (sY M) (sT M + 1) (sE M) sg).1 q).1) → (∀ j, 7 ≤ j → Y9 j = Y j) → (RM D T g (upd (upd S 0 (nI 0)) 1 (sT M + 1)) Y9 H9) → (va_S (AM g) s.heap H9 locs9) → ∀ (ls : Array Slot), lv_has ls 6 [(3, .int (nI q)), (2, .int (nI sg)), (1, .int (((runS (sY M) (sT M + 1) (sE M) sg).2 + (runK (sY M) (sT M + 1) sg (runS (sY M) (sT M + 1) (sE M) sg).1 q).2))), (0, .ref g)] → W p l e (rmL 1 0 0) s m args below meth c H9 locs9 (0) (0) (vx_MQ below (QI (AM g) (fun r H1 => PM D T g (oRun M) r H1)) (XX (AM g) (XN)) args s 0 0 (AM g)) (F0 m 49 ls []) := by
              intro n
              induction n with
              | zero => intro q Y9 H9 locs9 hfuel; exact absurd hfuel (Nat.not_lt_zero _)
              | succ n ih49 =>
                intro q Y9 H9 locs9 hfuel hq9 hE9 hY9 hR hS ls hl
                refine lv_iload_n hx hb dX7_run_49 rfl (lv_at hl 0 rfl) ?_
                refine lv_aload_n hx hb dX7_run_50 rfl (lv_at hl 3 rfl) ?_
                refine m_get hx hb hts in_X7_run_RX7 hown hK hR 29 (by decide) (hts (.fieldLink RX7 171 "ArcheloftModel" "systems" "I") (by decide +kernel)) rfl (v := .int (S 29)) rfl dX7_run_51 ?_
                refine x_top (y := (nI ((sY M).1))) (hY.1) ?_
                refine y_icmp_ge hx hb (by omega) (by omega) (tgt := 143) dX7_run_54 (by decide) (fun c54 => ?_) (fun c54 => ?_)
                · have hl : lv_has ls 6 [(3, .int (nI q)), (2, .int (nI sg)), (1, .int ((runS (sY M) (sT M + 1) (sE M) (sg + 1)).2)), (0, .ref g)] := by
                    have e9 : (((runS (sY M) (sT M + 1) (sE M) sg).2 + (runK (sY M) (sT M + 1) sg (runS (sY M) (sT M + 1) (sE M) sg).1 q).2)) = ((runS (sY M) (sT M + 1) (sE M) (sg + 1)).2) := by rw [show q = (sY M).1 by omega]; rfl
                    rw [← e9]; exact hl
                  refine lv_iinc (v := (nI (sg + 1))) (lv' := [(2, .int (nI (sg + 1))), (3, .int (nI q)), (1, .int ((runS (sY M) (sT M + 1) (sE M) (sg + 1)).2)), (0, .ref g)]) hx hb dX7_run_143 hl (k := 1) rfl (nI_inc _) (by decide) rfl (fun ls hl => ?_)
                  refine lv_goto (tgt := 39) hx hb dX7_run_146 (by decide) ?_
                  exact ih39 (sg + 1) Y9 H9 locs9 (by omega) (by omega) (by rw [show q = (sY M).1 by omega] at hE9; exact hE9) hY9 hR hS ls (lv_sub hl [0, 2, 3] rfl)
                · obtain ⟨q19, q20, q21⟩ := hY.2 q c54
                  obtain ⟨b19, b20, b21⟩ := iY.2 q c54
                  have hnn64 := (bit_or _ b19 _ b20).2
                  have hal : mAl (runS (sY M) (sT M + 1) (sE M) sg).1 = mAl (sE M) := (runS_al sg).1
                  have hkd : mKd (runS (sY M) (sT M + 1) (sE M) sg).1 = mKd (sE M) := (runS_al sg).2.2.1
                  have hak : mAl (runK (sY M) (sT M + 1) sg (runS (sY M) (sT M + 1) (sE M) sg).1 q).1 = mAl (sE M) := (runK_al q).1.trans hal
                  have hkk : mKd (runK (sY M) (sT M + 1) sg (runS (sY M) (sT M + 1) (sE M) sg).1 q).1 = mKd (sE M) := (runK_al q).2.2.1.trans hkd
                  refine lv_aload_n hx hb dX7_run_57 rfl (lv_at hl 3 rfl) ?_
                  refine m_get hx hb hts in_X7_run_RX7 hown hK hR 26 (by decide) (hts (.fieldLink RX7 65 "ArcheloftModel" "reads" "[I") (by decide +kernel)) rfl (v := .ref (g + 19)) rfl dX7_run_58 ?_
                  refine lv_iload_n hx hb dX7_run_61 rfl (lv_at hl 0 rfl) ?_
                  refine m_ld19 (i := q) hx hb hK hR (by omega) dX7_run_62 ?_
                  refine x_top (y := (nI ((sY M).2.1 q))) ((congrFun (hY9 19 (by decide)) q).trans q19) ?_
                  refine lv_aload_n hx hb dX7_run_63 rfl (lv_at hl 3 rfl) ?_
                  refine m_get hx hb hts in_X7_run_RX7 hown hK hR 27 (by decide) (hts (.fieldLink RX7 68 "ArcheloftModel" "writes" "[I") (by decide +kernel)) rfl (v := .ref (g + 20)) rfl dX7_run_64 ?_
                  refine lv_iload_n hx hb dX7_run_67 rfl (lv_at hl 0 rfl) ?_
                  refine m_ld20 (i := q) hx hb hK hR (by omega) dX7_run_68 ?_
                  refine x_top (y := (nI ((sY M).2.2.1 q))) ((congrFun (hY9 20 (by decide)) q).trans q20) ?_
                  refine lv_ior hx hb dX7_run_69 ?_
                  refine x_top (y := (nI (((sY M).2.1 q ||| (sY M).2.2.1 q)))) ((bit_or _ b19 _ b20).1) ?_
                  refine lv_istore (lv' := [(4, .int (nI (((sY M).2.1 q ||| (sY M).2.2.1 q)))), (3, .int (nI q)), (2, .int (nI sg)), (1, .int (((runS (sY M) (sT M + 1) (sE M) sg).2 + (runK (sY M) (sT M + 1) sg (runS (sY M) (sT M + 1) (sE M) sg).1 q).2))), (0, .ref g)]) hx hb dX7_run_70 hl (by decide) rfl (fun ls hl => ?_)
                  have hl : lv_has ls 6 [(4, .int (nI (((sY M).2.1 q ||| (sY M).2.2.1 q)))), (3, .int (nI q)), (2, .int (nI sg)), (1, .int (((runS (sY M) (sT M + 1) (sE M) sg).2 + ((runK (sY M) (sT M + 1) sg (runS (sY M) (sT M + 1) (sE M) sg).1 q).2 + nI (cnt (hitB (runS (sY M) (sT M + 1) (sE M) sg).1 ((sY M).2.1 q ||| (sY M).2.2.1 q)) 0 * (cntK ((sY M).2.2.1 q) 6)))))), (0, .ref g)] := by
                    have e9 : (((runS (sY M) (sT M + 1) (sE M) sg).2 + (runK (sY M) (sT M + 1) sg (runS (sY M) (sT M + 1) (sE M) sg).1 q).2)) = (((runS (sY M) (sT M + 1) (sE M) sg).2 + ((runK (sY M) (sT M + 1) sg (runS (sY M) (sT M + 1) (sE M) sg).1 q).2 + nI (cnt (hitB (runS (sY M) (sT M + 1) (sE M) sg).1 ((sY M).2.1 q ||| (sY M).2.2.1 q)) 0 * (cntK ((sY M).2.2.1 q) 6))))) := by rw [show cnt (hitB (runS (sY M) (sT M + 1) (sE M) sg).1 ((sY M).2.1 q ||| (sY M).2.2.1 q)) 0 * (cntK ((sY M).2.2.1 q) 6) = 0 from Nat.zero_mul _, add0]
                    rw [← e9]; exact hl
                  refine lv_iconst (v := nI 0) hx hb dX7_run_72 (by decide) ?_
                  refine lv_istore (lv' := [(5, .int (nI 0)), (4, .int (nI (((sY M).2.1 q ||| (sY M).2.2.1 q)))), (3, .int (nI q)), (2, .int (nI sg)), (1, .int (((runS (sY M) (sT M + 1) (sE M) sg).2 + ((runK (sY M) (sT M + 1) sg (runS (sY M) (sT M + 1) (sE M) sg).1 q).2 + nI (cnt (hitB (runS (sY M) (sT M + 1) (sE M) sg).1 ((sY M).2.1 q ||| (sY M).2.2.1 q)) 0 * (cntK ((sY M).2.2.1 q) 6)))))), (0, .ref g)]) hx hb dX7_run_73 hl (by decide) rfl (fun ls hl => ?_)
                  have loop75 : ∀ (n : Nat) (i : Nat) (Y9 : Nat → Nat → Int32) (H9 : Heap) (locs9 : List Loc), 32 - i < n → (i ≤ 32) → ((sY M).2.2.2 q = sg ∨ i = 0) → (RelE Y9 (sysT (runK (sY M) (sT M + 1) sg (runS (sY M) (sT M + 1) (sE M) sg).1 q).1 ((sY M).2.1 q) ((sY M).2.2.1 q) (sT M + 1) (hitB (runS (sY M) (sT M + 1) (sE M) sg).1 ((sY M).2.1 q ||| (sY M).2.2.1 q)) i)) → (∀ j, 7 ≤ j → Y9 j = Y j) → (RM D T g (upd (upd S 0 (nI 0)) 1 (sT M + 1)) Y9 H9) → (va_S (AM g) s.heap H9 locs9) → ∀ (ls : Array Slot), lv_has ls 6 [(5, .int (nI i)), (4, .int (nI (((sY M).2.1 q ||| (sY M).2.2.1 q)))), (3, .int (nI q)), (2, .int (nI sg)), (1, .int (((runS (sY M) (sT M + 1) (sE M) sg).2 + ((runK (sY M) (sT M + 1) sg (runS (sY M) (sT M + 1) (sE M) sg).1 q).2 + nI (cnt (hitB (runS (sY M) (sT M + 1) (sE M) sg).1 ((sY M).2.1 q ||| (sY M).2.2.1 q)) i * (cntK ((sY M).2.2.1 q) 6)))))), (0, .ref g)] → W p l e (rmL 1 0 0) s m args below meth c H9 locs9 (0) (0) (vx_MQ below (QI (AM g) (fun r H1 => PM D T g (oRun M) r H1)) (XX (AM g) (XN)) args s 0 0 (AM g)) (F0 m 75 ls []) := by
                    intro n
                    induction n with
                    | zero => intro i Y9 H9 locs9 hfuel; exact absurd hfuel (Nat.not_lt_zero _)
                    | succ n ih75 =>
                      intro i Y9 H9 locs9 hfuel hi cq hE9 hY9 hR hS ls hl
                      refine lv_iload hx hb dX7_run_75 (lv_at hl 0 rfl) ?_
                      refine lv_bipush (v := nI 32) hx hb dX7_run_77 (by decide) ?_
                      refine y_icmp_ge hx hb (by omega) (Nat.le_of_ble_eq_true rfl) (tgt := 137) dX7_run_79 (by decide) (fun c79 => ?_) (fun c79 => ?_)
                      · have ei : i = 32 := by omega
                        have hsg : (sY M).2.2.2 q = sg := by rcases cq with z | z; exact z; omega
                        have hE10 : RelE Y9 (runK (sY M) (sT M + 1) sg (runS (sY M) (sT M + 1) (sE M) sg).1 (q + 1)).1 := by rw [runK_t hsg]; rw [ei] at hE9; exact sysT_32 hE9
                        have hacc : ((runS (sY M) (sT M + 1) (sE M) sg).2 + ((runK (sY M) (sT M + 1) sg (runS (sY M) (sT M + 1) (sE M) sg).1 q).2 + nI (cnt (hitB (runS (sY M) (sT M + 1) (sE M) sg).1 ((sY M).2.1 q ||| (sY M).2.2.1 q)) i * (cntK ((sY M).2.2.1 q) 6)))) = ((runS (sY M) (sT M + 1) (sE M) sg).2 + (runK (sY M) (sT M + 1) sg (runS (sY M) (sT M + 1) (sE M) sg).1 (q + 1)).2) := by rw [ei, runK_t hsg]
                        have hl : lv_has ls 6 [(5, .int (nI i)), (4, .int (nI (((sY M).2.1 q ||| (sY M).2.2.1 q)))), (3, .int (nI q)), (2, .int (nI sg)), (1, .int (((runS (sY M) (sT M + 1) (sE M) sg).2 + (runK (sY M) (sT M + 1) sg (runS (sY M) (sT M + 1) (sE M) sg).1 (q + 1)).2))), (0, .ref g)] := by
                          have e9 : (((runS (sY M) (sT M + 1) (sE M) sg).2 + ((runK (sY M) (sT M + 1) sg (runS (sY M) (sT M + 1) (sE M) sg).1 q).2 + nI (cnt (hitB (runS (sY M) (sT M + 1) (sE M) sg).1 ((sY M).2.1 q ||| (sY M).2.2.1 q)) i * (cntK ((sY M).2.2.1 q) 6))))) = (((runS (sY M) (sT M + 1) (sE M) sg).2 + (runK (sY M) (sT M + 1) sg (runS (sY M) (sT M + 1) (sE M) sg).1 (q + 1)).2)) := hacc
                          rw [← e9]; exact hl
                        refine lv_iinc (v := (nI (q + 1))) (lv' := [(3, .int (nI (q + 1))), (5, .int (nI i)), (4, .int (nI (((sY M).2.1 q ||| (sY M).2.2.1 q)))), (2, .int (nI sg)), (1, .int (((runS (sY M) (sT M + 1) (sE M) sg).2 + (runK (sY M) (sT M + 1) sg (runS (sY M) (sT M + 1) (sE M) sg).1 (q + 1)).2))), (0, .ref g)]) hx hb dX7_run_137 hl (k := 2) rfl (nI_inc _) (by decide) rfl (fun ls hl => ?_)
                        refine lv_goto (tgt := 49) hx hb dX7_run_140 (by decide) ?_
                        exact ih49 (q + 1) Y9 H9 locs9 (by omega) (by omega) hE10 hY9 hR hS ls (lv_sub hl [0, 3, 4, 5] rfl)
                      · refine lv_aload_n hx hb dX7_run_82 rfl (lv_at hl 5 rfl) ?_
                        refine m_get hx hb hts in_X7_run_RX7 hown hK hR 28 (by decide) (hts (.fieldLink RX7 71 "ArcheloftModel" "stage" "[I") (by decide +kernel)) rfl (v := .ref (g + 21)) rfl dX7_run_83 ?_
                        refine lv_iload_n hx hb dX7_run_86 rfl (lv_at hl 2 rfl) ?_
                        refine m_ld21 (i := q) hx hb hK hR (by omega) dX7_run_87 ?_
                        refine x_top (y := (nI ((sY M).2.2.2 q))) ((congrFun (hY9 21 (by decide)) q).trans q21) ?_
                        refine lv_iload_n hx hb dX7_run_88 rfl (lv_at hl 3 rfl) ?_
                        refine y_icmp_ne hx hb (by omega) (by omega) (tgt := 137) dX7_run_89 (by decide) (fun c89 => ?_) (fun c89 => ?_)
                        · have ei : i = 0 := by rcases cq with z | z; exact absurd z c89; exact z
                          have hE10 : RelE Y9 (runK (sY M) (sT M + 1) sg (runS (sY M) (sT M + 1) (sE M) sg).1 (q + 1)).1 := by rw [runK_f c89]; rw [ei, sysT_0] at hE9; exact hE9
                          have hacc : ((runS (sY M) (sT M + 1) (sE M) sg).2 + ((runK (sY M) (sT M + 1) sg (runS (sY M) (sT M + 1) (sE M) sg).1 q).2 + nI (cnt (hitB (runS (sY M) (sT M + 1) (sE M) sg).1 ((sY M).2.1 q ||| (sY M).2.2.1 q)) i * (cntK ((sY M).2.2.1 q) 6)))) = ((runS (sY M) (sT M + 1) (sE M) sg).2 + (runK (sY M) (sT M + 1) sg (runS (sY M) (sT M + 1) (sE M) sg).1 (q + 1)).2) := by rw [ei, runK_f c89, show cnt (hitB (runS (sY M) (sT M + 1) (sE M) sg).1 ((sY M).2.1 q ||| (sY M).2.2.1 q)) 0 * (cntK ((sY M).2.2.1 q) 6) = 0 from Nat.zero_mul _, add0]
                          have hl : lv_has ls 6 [(5, .int (nI i)), (4, .int (nI (((sY M).2.1 q ||| (sY M).2.2.1 q)))), (3, .int (nI q)), (2, .int (nI sg)), (1, .int (((runS (sY M) (sT M + 1) (sE M) sg).2 + (runK (sY M) (sT M + 1) sg (runS (sY M) (sT M + 1) (sE M) sg).1 (q + 1)).2))), (0, .ref g)] := by
                            have e9 : (((runS (sY M) (sT M + 1) (sE M) sg).2 + ((runK (sY M) (sT M + 1) sg (runS (sY M) (sT M + 1) (sE M) sg).1 q).2 + nI (cnt (hitB (runS (sY M) (sT M + 1) (sE M) sg).1 ((sY M).2.1 q ||| (sY M).2.2.1 q)) i * (cntK ((sY M).2.2.1 q) 6))))) = (((runS (sY M) (sT M + 1) (sE M) sg).2 + (runK (sY M) (sT M + 1) sg (runS (sY M) (sT M + 1) (sE M) sg).1 (q + 1)).2)) := hacc
                            rw [← e9]; exact hl
                          refine lv_iinc (v := (nI (q + 1))) (lv' := [(3, .int (nI (q + 1))), (5, .int (nI i)), (4, .int (nI (((sY M).2.1 q ||| (sY M).2.2.1 q)))), (2, .int (nI sg)), (1, .int (((runS (sY M) (sT M + 1) (sE M) sg).2 + (runK (sY M) (sT M + 1) sg (runS (sY M) (sT M + 1) (sE M) sg).1 (q + 1)).2))), (0, .ref g)]) hx hb dX7_run_137 hl (k := 2) rfl (nI_inc _) (by decide) rfl (fun ls hl => ?_)
                          refine lv_goto (tgt := 49) hx hb dX7_run_140 (by decide) ?_
                          exact ih49 (q + 1) Y9 H9 locs9 (by omega) (by omega) hE10 hY9 hR hS ls (lv_sub hl [0, 3, 4, 5] rfl)
                        · refine lv_iload_n hx hb dX7_run_92 rfl (lv_at hl 4 rfl) ?_
                          refine lv_aload_n hx hb dX7_run_93 rfl (lv_at hl 5 rfl) ?_
                          refine m_get hx hb hts in_X7_run_RX7 hown hK hR 2 (by decide) (hts (.fieldLink RX7 7 "ArcheloftModel" "isAlive" "[Z") (by decide +kernel)) rfl (v := .ref (g + 1)) rfl dX7_run_94 ?_
                          refine lv_iload hx hb dX7_run_97 (lv_at hl 0 rfl) ?_
                          refine m_ld1 (i := i) hx hb hK hR (by omega) dX7_run_99 ?_
                          have hi32 : i < 32 := c79
                          refine x_top (y := (bI (mAl (sE M) i))) ((hE9.1 i hi32).trans (by rw [show mAl (sysT (runK (sY M) (sT M + 1) sg (runS (sY M) (sT M + 1) (sE M) sg).1 q).1 ((sY M).2.1 q) ((sY M).2.2.1 q) (sT M + 1) (hitB (runS (sY M) (sT M + 1) (sE M) sg).1 ((sY M).2.1 q ||| (sY M).2.2.1 q)) i) = mAl (sE M) from hak])) ?_
                          refine y_bif_eq hx hb (tgt := 128) dX7_run_100 (by decide) (fun c100 => ?_) (fun c100 => ?_)
                          · refine lv_iconst (v := nI 0) hx hb dX7_run_128 (by decide) ?_
                            refine lv_iadd hx hb dX7_run_129 ?_
                            have hhb : (hitB (runS (sY M) (sT M + 1) (sE M) sg).1 ((sY M).2.1 q ||| (sY M).2.2.1 q)) i = false := by show (mAl (runS (sY M) (sT M + 1) (sE M) sg).1 i && _) = false; rw [hal, c100]; rfl
                            have hE10 : RelE Y9 (sysT (runK (sY M) (sT M + 1) sg (runS (sY M) (sT M + 1) (sE M) sg).1 q).1 ((sY M).2.1 q) ((sY M).2.2.1 q) (sT M + 1) (hitB (runS (sY M) (sT M + 1) (sE M) sg).1 ((sY M).2.1 q ||| (sY M).2.2.1 q)) (i + 1)) := sysT_f hE9 hhb
                            have hY10 : ∀ j, 7 ≤ j → Y9 j = Y j := hY9
                            refine x_top (y := (((runS (sY M) (sT M + 1) (sE M) sg).2 + ((runK (sY M) (sT M + 1) sg (runS (sY M) (sT M + 1) (sE M) sg).1 q).2 + nI (cnt (hitB (runS (sY M) (sT M + 1) (sE M) sg).1 ((sY M).2.1 q ||| (sY M).2.2.1 q)) (i + 1) * (cntK ((sY M).2.2.1 q) 6)))))) (by rw [cnt_f hhb, add0]) ?_
                            refine lv_istore_n (lv' := [(1, .int (((runS (sY M) (sT M + 1) (sE M) sg).2 + ((runK (sY M) (sT M + 1) sg (runS (sY M) (sT M + 1) (sE M) sg).1 q).2 + nI (cnt (hitB (runS (sY M) (sT M + 1) (sE M) sg).1 ((sY M).2.1 q ||| (sY M).2.2.1 q)) (i + 1) * (cntK ((sY M).2.2.1 q) 6)))))), (5, .int (nI i)), (4, .int (nI (((sY M).2.1 q ||| (sY M).2.2.1 q)))), (3, .int (nI q)), (2, .int (nI sg)), (0, .ref g)]) hx hb dX7_run_130 rfl hl (by decide) rfl (fun ls hl => ?_)
                            refine lv_iinc (v := (nI (i + 1))) (lv' := [(5, .int (nI (i + 1))), (1, .int (((runS (sY M) (sT M + 1) (sE M) sg).2 + ((runK (sY M) (sT M + 1) sg (runS (sY M) (sT M + 1) (sE M) sg).1 q).2 + nI (cnt (hitB (runS (sY M) (sT M + 1) (sE M) sg).1 ((sY M).2.1 q ||| (sY M).2.2.1 q)) (i + 1) * (cntK ((sY M).2.2.1 q) 6)))))), (4, .int (nI (((sY M).2.1 q ||| (sY M).2.2.1 q)))), (3, .int (nI q)), (2, .int (nI sg)), (0, .ref g)]) hx hb dX7_run_131 hl (k := 1) rfl (nI_inc _) (by decide) rfl (fun ls hl => ?_)
                            refine lv_goto (tgt := 75) hx hb dX7_run_134 (by decide) ?_
                            exact ih75 (i + 1) Y9 H9 locs9 (by omega) (by omega) (Or.inl c89) hE10 hY10 hR hS ls (lv_sub hl [0, 2, 3, 4, 1, 5] rfl)
                          · refine lv_aload_n hx hb dX7_run_103 rfl (lv_at hl 5 rfl) ?_
                            refine m_get hx hb hts in_X7_run_RX7 hown hK hR 4 (by decide) (hts (.fieldLink RX7 17 "ArcheloftModel" "kinds" "[I") (by decide +kernel)) rfl (v := .ref (g + 3)) rfl dX7_run_104 ?_
                            refine lv_iload hx hb dX7_run_107 (lv_at hl 0 rfl) ?_
                            refine m_ld3 (i := i) hx hb hK hR (by omega) dX7_run_109 ?_
                            refine x_top (y := (nI (mKd (sE M) i))) ((hE9.2.2.1 i hi32 (by rw [show mAl (sysT (runK (sY M) (sT M + 1) sg (runS (sY M) (sT M + 1) (sE M) sg).1 q).1 ((sY M).2.1 q) ((sY M).2.2.1 q) (sT M + 1) (hitB (runS (sY M) (sT M + 1) (sE M) sg).1 ((sY M).2.1 q ||| (sY M).2.2.1 q)) i) = mAl (sE M) from hak]; exact c100)).trans (by rw [show mKd (sysT (runK (sY M) (sT M + 1) sg (runS (sY M) (sT M + 1) (sE M) sg).1 q).1 ((sY M).2.1 q) ((sY M).2.2.1 q) (sT M + 1) (hitB (runS (sY M) (sT M + 1) (sE M) sg).1 ((sY M).2.1 q ||| (sY M).2.2.1 q)) i) = mKd (sE M) from hkk])) ?_
                            have hkd64 : mKd (runS (sY M) (sT M + 1) (sE M) sg).1 i < 64 := by rw [hkd]; exact iE.1 i
                            refine lv_iload hx hb dX7_run_110 (lv_at hl 1 rfl) ?_
                            refine lv_iand hx hb dX7_run_112 ?_
                            refine lv_iload hx hb dX7_run_113 (lv_at hl 1 rfl) ?_
                            refine lv_icmp_ne (tgt := 128) hx hb dX7_run_115 (by decide) (fun c115 => ?_) (fun c115 => ?_)
                            · have c115 : ¬ nI (mKd (runS (sY M) (sT M + 1) (sE M) sg).1 i) &&& nI ((sY M).2.1 q ||| (sY M).2.2.1 q) = nI ((sY M).2.1 q ||| (sY M).2.2.1 q) := by rw [hkd]; exact c115
                              refine lv_iconst (v := nI 0) hx hb dX7_run_128 (by decide) ?_
                              refine lv_iadd hx hb dX7_run_129 ?_
                              have hhb : (hitB (runS (sY M) (sT M + 1) (sE M) sg).1 ((sY M).2.1 q ||| (sY M).2.2.1 q)) i = false := by show (mAl (runS (sY M) (sT M + 1) (sE M) sg).1 i && subB (mKd (runS (sY M) (sT M + 1) (sE M) sg).1 i) ((sY M).2.1 q ||| (sY M).2.2.1 q)) = false; rw [show subB (mKd (runS (sY M) (sT M + 1) (sE M) sg).1 i) ((sY M).2.1 q ||| (sY M).2.2.1 q) = false from bitS_f (fun z => c115 ((bit_sub _ hkd64 _ hnn64).mpr z)), Bool.and_false]
                              have hE10 : RelE Y9 (sysT (runK (sY M) (sT M + 1) sg (runS (sY M) (sT M + 1) (sE M) sg).1 q).1 ((sY M).2.1 q) ((sY M).2.2.1 q) (sT M + 1) (hitB (runS (sY M) (sT M + 1) (sE M) sg).1 ((sY M).2.1 q ||| (sY M).2.2.1 q)) (i + 1)) := sysT_f hE9 hhb
                              have hY10 : ∀ j, 7 ≤ j → Y9 j = Y j := hY9
                              refine x_top (y := (((runS (sY M) (sT M + 1) (sE M) sg).2 + ((runK (sY M) (sT M + 1) sg (runS (sY M) (sT M + 1) (sE M) sg).1 q).2 + nI (cnt (hitB (runS (sY M) (sT M + 1) (sE M) sg).1 ((sY M).2.1 q ||| (sY M).2.2.1 q)) (i + 1) * (cntK ((sY M).2.2.1 q) 6)))))) (by rw [cnt_f hhb, add0]) ?_
                              refine lv_istore_n (lv' := [(1, .int (((runS (sY M) (sT M + 1) (sE M) sg).2 + ((runK (sY M) (sT M + 1) sg (runS (sY M) (sT M + 1) (sE M) sg).1 q).2 + nI (cnt (hitB (runS (sY M) (sT M + 1) (sE M) sg).1 ((sY M).2.1 q ||| (sY M).2.2.1 q)) (i + 1) * (cntK ((sY M).2.2.1 q) 6)))))), (5, .int (nI i)), (4, .int (nI (((sY M).2.1 q ||| (sY M).2.2.1 q)))), (3, .int (nI q)), (2, .int (nI sg)), (0, .ref g)]) hx hb dX7_run_130 rfl hl (by decide) rfl (fun ls hl => ?_)
                              refine lv_iinc (v := (nI (i + 1))) (lv' := [(5, .int (nI (i + 1))), (1, .int (((runS (sY M) (sT M + 1) (sE M) sg).2 + ((runK (sY M) (sT M + 1) sg (runS (sY M) (sT M + 1) (sE M) sg).1 q).2 + nI (cnt (hitB (runS (sY M) (sT M + 1) (sE M) sg).1 ((sY M).2.1 q ||| (sY M).2.2.1 q)) (i + 1) * (cntK ((sY M).2.2.1 q) 6)))))), (4, .int (nI (((sY M).2.1 q ||| (sY M).2.2.1 q)))), (3, .int (nI q)), (2, .int (nI sg)), (0, .ref g)]) hx hb dX7_run_131 hl (k := 1) rfl (nI_inc _) (by decide) rfl (fun ls hl => ?_)
                              refine lv_goto (tgt := 75) hx hb dX7_run_134 (by decide) ?_
                              exact ih75 (i + 1) Y9 H9 locs9 (by omega) (by omega) (Or.inl c89) hE10 hY10 hR hS ls (lv_sub hl [0, 2, 3, 4, 1, 5] rfl)
                            · have hhb : (hitB (runS (sY M) (sT M + 1) (sE M) sg).1 ((sY M).2.1 q ||| (sY M).2.2.1 q)) i = true := by
                                show (mAl (runS (sY M) (sT M + 1) (sE M) sg).1 i && subB (mKd (runS (sY M) (sT M + 1) (sE M) sg).1 i) ((sY M).2.1 q ||| (sY M).2.2.1 q)) = true
                                rw [hal, c100, show subB (mKd (runS (sY M) (sT M + 1) (sE M) sg).1 i) ((sY M).2.1 q ||| (sY M).2.2.1 q) = true from (bit_sub _ hkd64 _ hnn64).mp (by rw [hkd]; exact c115)]; rfl
                              refine lv_aload_n hx hb dX7_run_118 rfl (lv_at hl 5 rfl) ?_
                              refine lv_iload_n hx hb dX7_run_119 rfl (lv_at hl 2 rfl) ?_
                              refine lv_iload hx hb dX7_run_120 (lv_at hl 0 rfl) ?_
                              refine k_ip (k_V (As := [.int (nI q), .int (nI i)]) (rest := [.int (((runS (sY M) (sT M + 1) (sE M) sg).2 + ((runK (sY M) (sT M + 1) sg (runS (sY M) (sT M + 1) (sE M) sg).1 q).2 + nI (cnt (hitB (runS (sY M) (sT M + 1) (sE M) sg).1 ((sY M).2.1 q ||| (sY M).2.2.1 q)) i * (cntK ((sY M).2.2.1 q) 6)))))]) ⟨hx, hb, hml, hown, hts⟩ hev hS (c_X7_runsOn l hR hE9 (Z := sY M) (hY.cong rfl (fun j h1 h2 => hY9 j (by omega))) iY c54 hi32) (cwV 2 hts gX7_run_X7_runsOn rfl rfl rfl (by decide +kernel) ⟨Nat.le_of_ble_eq_true rfl, Nat.le_of_ble_eq_true rfl⟩) (x_recv hK hR.1 rfl) rfl hl.1 (Nat.le_of_ble_eq_true rfl) dX7_run_122 (Nat.le_of_ble_eq_true rfl) (Nat.le_of_ble_eq_true rfl)) hS hnt hlk (fun _ _ h _ => h.elim) (Nat.le_of_ble_eq_true rfl) (Nat.le_of_ble_eq_true rfl) (fun rq4_ H4 locs4 hP hz4 hS => ?_)
                              refine W.widen (k := 0) (n := 0) (Nat.le_refl _) (Nat.le_refl _) ?_
                              obtain ⟨er6, Y8, hR, hE8, hY8⟩ := hP
                              have hE8 : RelE Y8 (wkE (sysT (runK (sY M) (sT M + 1) sg (runS (sY M) (sT M + 1) (sE M) sg).1 q).1 ((sY M).2.1 q) ((sY M).2.2.1 q) (sT M + 1) (hitB (runS (sY M) (sT M + 1) (sE M) sg).1 ((sY M).2.1 q ||| (sY M).2.2.1 q)) i) i ((sY M).2.2.1 q) (sumK ((sY M).2.1 q) (mVal (runK (sY M) (sT M + 1) sg (runS (sY M) (sT M + 1) (sE M) sg).1 q).1 i) 6) (sT M + 1) 6) := by
                                have e9 := sysT_val (E := (runK (sY M) (sT M + 1) sg (runS (sY M) (sT M + 1) (sE M) sg).1 q).1) (rd := (sY M).2.1 q) (wr := (sY M).2.2.1 q) (t := sT M + 1) (p := (hitB (runS (sY M) (sT M + 1) (sE M) sg).1 ((sY M).2.1 q ||| (sY M).2.2.1 q))) (i := i)
                                rw [e9] at hE8; exact hE8
                              refine lv_goto (tgt := 129) hx hb dX7_run_125 (by decide) ?_
                              refine lv_iadd hx hb dX7_run_129 ?_
                              have hE10 : RelE Y8 (sysT (runK (sY M) (sT M + 1) sg (runS (sY M) (sT M + 1) (sE M) sg).1 q).1 ((sY M).2.1 q) ((sY M).2.2.1 q) (sT M + 1) (hitB (runS (sY M) (sT M + 1) (sE M) sg).1 ((sY M).2.1 q ||| (sY M).2.2.1 q)) (i + 1)) := by rw [← sysT_t hhb]; exact hE8
                              have hY10 : ∀ j, 7 ≤ j → Y8 j = Y j := fun j hj => (hY8 j hj).trans (hY9 j hj)
                              refine x_top (y := (((runS (sY M) (sT M + 1) (sE M) sg).2 + ((runK (sY M) (sT M + 1) sg (runS (sY M) (sT M + 1) (sE M) sg).1 q).2 + nI (cnt (hitB (runS (sY M) (sT M + 1) (sE M) sg).1 ((sY M).2.1 q ||| (sY M).2.2.1 q)) (i + 1) * (cntK ((sY M).2.2.1 q) 6)))))) (by rw [er6, cnt_t hhb, ← acc_t]; exact Int32.add_assoc _ _ _) ?_
                              refine lv_istore_n (lv' := [(1, .int (((runS (sY M) (sT M + 1) (sE M) sg).2 + ((runK (sY M) (sT M + 1) sg (runS (sY M) (sT M + 1) (sE M) sg).1 q).2 + nI (cnt (hitB (runS (sY M) (sT M + 1) (sE M) sg).1 ((sY M).2.1 q ||| (sY M).2.2.1 q)) (i + 1) * (cntK ((sY M).2.2.1 q) 6)))))), (5, .int (nI i)), (4, .int (nI (((sY M).2.1 q ||| (sY M).2.2.1 q)))), (3, .int (nI q)), (2, .int (nI sg)), (0, .ref g)]) hx hb dX7_run_130 rfl hl (by decide) rfl (fun ls hl => ?_)
                              refine lv_iinc (v := (nI (i + 1))) (lv' := [(5, .int (nI (i + 1))), (1, .int (((runS (sY M) (sT M + 1) (sE M) sg).2 + ((runK (sY M) (sT M + 1) sg (runS (sY M) (sT M + 1) (sE M) sg).1 q).2 + nI (cnt (hitB (runS (sY M) (sT M + 1) (sE M) sg).1 ((sY M).2.1 q ||| (sY M).2.2.1 q)) (i + 1) * (cntK ((sY M).2.2.1 q) 6)))))), (4, .int (nI (((sY M).2.1 q ||| (sY M).2.2.1 q)))), (3, .int (nI q)), (2, .int (nI sg)), (0, .ref g)]) hx hb dX7_run_131 hl (k := 1) rfl (nI_inc _) (by decide) rfl (fun ls hl => ?_)
                              refine lv_goto (tgt := 75) hx hb dX7_run_134 (by decide) ?_
                              exact ih75 (i + 1) Y8 H4 locs4 (by omega) (by omega) (Or.inl c89) hE10 hY10 hR hS ls (lv_sub hl [0, 2, 3, 4, 1, 5] rfl)
                  exact loop75 (32 + 1) 0 Y9 H9 locs9 (Nat.lt_succ_self _) (Nat.zero_le _) (Or.inr rfl) (by rw [sysT_0]; exact hE9) hY9 hR hS ls (lv_sub hl [0, 1, 2, 3, 4, 5] rfl)
            exact loop49 (((sY M).1 - 0) + 1) 0 Y9 H3 locs3 (Nat.lt_succ_self _) (Nat.zero_le _) hE9 hY9 hR hS ls (lv_sub hl [0, 1, 2, 3] rfl)
      exact loop39 ((stgs (sY M) (sY M).1 - 0) + 1) 0 Y H2 locs2 (Nat.lt_succ_self _) (Nat.zero_le _) hE (fun _ _ => rfl) hR hS ls (lv_sub hl [0, 1, 2] rfl)
    · exact absurd c20 (by decide)
  · have ho : oRun M = oErr M 1 := if_pos c5
    refine lv_iconst (v := nI 1) hx hb dX7_run_8 (by decide) ?_
    refine lv_goto (tgt := 13) hx hb dX7_run_9 (by decide) ?_
    refine m_put0 (v := (nI 1)) hx hb hts in_X7_run_RX7 hown hK hS hR (hts (.fieldLink RX7 77 "ArcheloftModel" "thrown" "I") (by decide +kernel)) dX7_run_13 (fun H5 locs5 hR hS => ?_)
    refine lv_aload_n hx hb dX7_run_16 rfl (lv_at hl 0 rfl) ?_
    refine m_get hx hb hts in_X7_run_RX7 hown hK hR 0 (by decide) (hts (.fieldLink RX7 77 "ArcheloftModel" "thrown" "I") (by decide +kernel)) rfl (v := .int (nI 1)) rfl dX7_run_17 ?_
    refine y_if_le hx hb (by decide) (tgt := 25) dX7_run_20 (by decide) (fun c20 => ?_) (fun c20 => ?_)
    · exact absurd c20 (by decide)
    · refine lv_iconst (v := nI 0) hx hb dX7_run_23 (by decide) ?_
      exact r_i hx hb hrt9 hlk hS (Nat.le_of_ble_eq_true rfl) (Nat.le_of_ble_eq_true rfl) dX7_run_24 (by rw [ho]; exact PM.err (by decide) hR hM rfl)

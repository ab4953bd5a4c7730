set_option maxRecDepth 100000 in
theorem in_X7_manyAnswers_RX7 : ∀ w ∈ wsX70, w ∈ wsX7_manyAnswers := by decide +kernel
set_option maxHeartbeats 4000000 in
set_option maxRecDepth 100000 in
theorem c_X7_manyAnswers (l : Launch) {D : va_G} {T : Nat → ClassId} {dE mi : Nat} {g : Nat} {S : Nat → Int32} {Y : Nat → Nat → Int32} {H : Heap} (hR : RM D T g S Y H) {Q : mQ} {R : mR} (hQ : RelQ S Y Q) (hrw : RelR S Y R) (ok : okR R) (iQ : InvQ Q) {q : Nat} (hq : q < Q.1) : vx_Met l yX7_manyAnswers wsX7_manyAnswers (rmL 1 0 0) (PcE D T dE mi (AM g) H [.ref g, .int (nI q)]) (QI (AM g) (fun r H1 => RM D T g S Y H1 ∧ r = nI (aN Q R q))) (XX (AM g) (XN)) 0 0 (AM g) := by
  refine entry (cc := cX7_manyAnswers) (maxL := 4) (ret := (some .int)) (by decide) rfl (Nat.le_of_ble_eq_true rfl) ?_
  intro p e s m args below meth c hx hb hrt9 hml hown hts hlk hnt hnm hev hS ls hl
  have hown : s.vm.findClass RX7 = some m.cls := hown
  have hK := hev.1
  have hl : lv_has ls 4 [(0, .ref g), (1, .int (nI q))] := hl
  have h64 := ok.le
  refine lv_iconst (v := nI 0) hx hb dX7_manyAnswers_0 (by decide) ?_
  refine lv_istore_n (lv' := [(2, .int (nI 0)), (0, .ref g), (1, .int (nI q))]) hx hb dX7_manyAnswers_1 rfl hl (by decide) rfl (fun ls hl => ?_)
  refine lv_iconst (v := nI 0) hx hb dX7_manyAnswers_2 (by decide) ?_
  refine lv_istore_n (lv' := [(3, .int (nI 0)), (2, .int (nI 0)), (0, .ref g), (1, .int (nI q))]) hx hb dX7_manyAnswers_3 rfl hl (by decide) rfl (fun ls hl => ?_)
  have loop4 : ∀ (n : Nat) (i : Nat) (H9 : Heap) (locs9 : List Loc), rN R - i < n → (i ≤ rN R) → (RM D T g S Y H9) → (va_S (AM g) s.heap H9 locs9) → ∀ (ls : Array Slot), lv_has ls 4 [(3, .int (nI i)), (2, .int (nI (aTo Q R q i))), (0, .ref g), (1, .int (nI q))] → W p l e (rmL 1 0 0) s m args below meth c H9 locs9 (0) (0) (vx_MQ below (QI (AM g) (fun r H1 => RM D T g S Y H1 ∧ r = nI (aN Q R q))) (XX (AM g) (XN)) args s 0 0 (AM g)) (F0 m 4 ls []) := by
    intro n
    induction n with
    | zero => intro i H9 locs9 hfuel; exact absurd hfuel (Nat.not_lt_zero _)
    | succ n ih4 =>
      intro i H9 locs9 hfuel hi hR hS ls hl
      refine lv_iload_n hx hb dX7_manyAnswers_4 rfl (lv_at hl 0 rfl) ?_
      refine lv_aload_n hx hb dX7_manyAnswers_5 rfl (lv_at hl 2 rfl) ?_
      refine m_get hx hb hts in_X7_manyAnswers_RX7 hown hK hR 12 (by decide) (hts (.fieldLink RX7 81 "ArcheloftModel" "rows" "I") (by decide +kernel)) rfl (v := .int (S 12)) rfl dX7_manyAnswers_6 ?_
      refine x_top (y := (nI (rN R))) (hrw.1) ?_
      refine y_icmp_ge hx hb (by omega) (by omega) (tgt := 45) dX7_manyAnswers_9 (by decide) (fun c9 => ?_) (fun c9 => ?_)
      · refine lv_iload_n hx hb dX7_manyAnswers_45 rfl (lv_at hl 1 rfl) ?_
        exact r_i hx hb hrt9 hlk hS (Nat.le_of_ble_eq_true rfl) (Nat.le_of_ble_eq_true rfl) dX7_manyAnswers_46 (⟨hR, by rw [show i = rN R by omega]; rfl⟩)
      · refine lv_iload_n hx hb dX7_manyAnswers_12 rfl (lv_at hl 1 rfl) ?_
        refine lv_aload_n hx hb dX7_manyAnswers_13 rfl (lv_at hl 2 rfl) ?_
        refine lv_iload_n hx hb dX7_manyAnswers_14 rfl (lv_at hl 3 rfl) ?_
        refine lv_aload_n hx hb dX7_manyAnswers_15 rfl (lv_at hl 2 rfl) ?_
        refine m_get hx hb hts in_X7_manyAnswers_RX7 hown hK hR 9 (by decide) (hts (.fieldLink RX7 32 "ArcheloftModel" "setOf" "[I") (by decide +kernel)) rfl (v := .ref (g + 8)) rfl dX7_manyAnswers_16 ?_
        refine lv_iload_n hx hb dX7_manyAnswers_19 rfl (lv_at hl 0 rfl) ?_
        refine m_ld8 (i := i) hx hb hK hR (by omega) dX7_manyAnswers_20 ?_
        refine x_top (y := (nI (rS R i))) (hrw.2.2.1 i (by omega)) ?_
        refine k_ip (k_V (As := [.int (nI q), .int (nI (rS R i))]) (rest := [.int (nI (aTo Q R q i))]) ⟨hx, hb, hml, hown, hts⟩ hev hS (c_X7_answersBy l hR (Nat.lt_of_lt_of_le hq iQ.1) (hQ.2 q hq).1 (hQ.2 q hq).2.1 (hQ.2 q hq).2.2 (iQ.2 q hq).1 (iQ.2 q hq).2.1 (iQ.2 q hq).2.2 (ok.1 i (by omega))) (cwV 2 hts gX7_manyAnswers_X7_answersBy rfl rfl rfl (by decide +kernel) ⟨Nat.le_of_ble_eq_true rfl, Nat.le_of_ble_eq_true rfl⟩) (x_recv hK hR.1 rfl) rfl hl.1 (Nat.le_of_ble_eq_true rfl) dX7_manyAnswers_21 (Nat.le_of_ble_eq_true rfl) (Nat.le_of_ble_eq_true rfl)) hS hnt hlk (fun _ _ h _ => h.elim) (Nat.le_of_ble_eq_true rfl) (Nat.le_of_ble_eq_true rfl) (fun rq1_ H1 locs1 hP hz1 hS => ?_)
        refine W.widen (k := 0) (n := 0) (Nat.le_refl _) (Nat.le_refl _) ?_
        have hR : RM D T g S Y H1 := by rw [hP.1]; exact hR
        have era := hP.2
        refine x_top (y := (bI (ansQ Q q (rS R i)))) (era) ?_
        refine y_bif_eq hx hb (tgt := 36) dX7_manyAnswers_24 (by decide) (fun c24 => ?_) (fun c24 => ?_)
        · refine lv_iconst (v := nI 0) hx hb dX7_manyAnswers_36 (by decide) ?_
          refine y_iadd hx hb dX7_manyAnswers_37 ?_
          refine x_top (y := (nI (aTo Q R q (i + 1)))) (by rw [aTo_f c24]; rfl) ?_
          refine lv_istore_n (lv' := [(2, .int (nI (aTo Q R q (i + 1)))), (3, .int (nI i)), (0, .ref g), (1, .int (nI q))]) hx hb dX7_manyAnswers_38 rfl hl (by decide) rfl (fun ls hl => ?_)
          refine lv_iinc (v := (nI (i + 1))) (lv' := [(3, .int (nI (i + 1))), (2, .int (nI (aTo Q R q (i + 1)))), (0, .ref g), (1, .int (nI q))]) hx hb dX7_manyAnswers_39 hl (k := 1) rfl (nI_inc _) (by decide) rfl (fun ls hl => ?_)
          refine lv_goto (tgt := 4) hx hb dX7_manyAnswers_42 (by decide) ?_
          exact ih4 (i + 1) H1 locs1 (by omega) (by omega) hR hS ls (lv_sub hl [0, 1, 2, 3] rfl)
        · refine lv_aload_n hx hb dX7_manyAnswers_27 rfl (lv_at hl 2 rfl) ?_
          refine m_get hx hb hts in_X7_manyAnswers_RX7 hown hK hR 10 (by decide) (hts (.fieldLink RX7 35 "ArcheloftModel" "size" "[I") (by decide +kernel)) rfl (v := .ref (g + 9)) rfl dX7_manyAnswers_28 ?_
          refine lv_iload_n hx hb dX7_manyAnswers_31 rfl (lv_at hl 0 rfl) ?_
          refine m_ld9 (i := i) hx hb hK hR (by omega) dX7_manyAnswers_32 ?_
          refine x_top (y := (nI (rZ R i))) (by rw [hrw.2.2.2.1 i (by omega), if_pos (by omega)]) ?_
          refine lv_goto (tgt := 37) hx hb dX7_manyAnswers_33 (by decide) ?_
          refine y_iadd hx hb dX7_manyAnswers_37 ?_
          refine x_top (y := (nI (aTo Q R q (i + 1)))) (by rw [aTo_t c24]) ?_
          refine lv_istore_n (lv' := [(2, .int (nI (aTo Q R q (i + 1)))), (3, .int (nI i)), (0, .ref g), (1, .int (nI q))]) hx hb dX7_manyAnswers_38 rfl hl (by decide) rfl (fun ls hl => ?_)
          refine lv_iinc (v := (nI (i + 1))) (lv' := [(3, .int (nI (i + 1))), (2, .int (nI (aTo Q R q (i + 1)))), (0, .ref g), (1, .int (nI q))]) hx hb dX7_manyAnswers_39 hl (k := 1) rfl (nI_inc _) (by decide) rfl (fun ls hl => ?_)
          refine lv_goto (tgt := 4) hx hb dX7_manyAnswers_42 (by decide) ?_
          exact ih4 (i + 1) H1 locs1 (by omega) (by omega) hR hS ls (lv_sub hl [0, 1, 2, 3] rfl)
  exact loop4 ((rN R - 0) + 1) 0 H [] (Nat.lt_succ_self _) (Nat.zero_le _) hR hS ls (lv_sub hl [0, 1, 2, 3] rfl)
set_option maxRecDepth 100000 in
theorem in_X7_answerAt_RX7 : ∀ w ∈ wsX70, w ∈ wsX7_answerAt := by decide +kernel
set_option maxHeartbeats 4000000 in
set_option maxRecDepth 100000 in
theorem c_X7_answerAt (l : Launch) {D : va_G} {T : Nat → ClassId} {dE mi : Nat} {g : Nat} {S : Nat → Int32} {Y : Nat → Nat → Int32} {H : Heap} (hR : RM D T g S Y H) {Q : mQ} {R : mR} (hQ : RelQ S Y Q) (hrw : RelR S Y R) (ok : okR R) (iQ : InvQ Q) {q : Nat} (hq : q < Q.1) {p1 : Nat} (hp1 : p1 < 2 ^ 30) : vx_Met l yX7_answerAt wsX7_answerAt (rmL 1 0 0) (PcE D T dE mi (AM g) H [.ref g, .int (nI q), .int (nI p1)]) (QI (AM g) (fun r H1 => RM D T g S Y H1 ∧ r = nO (aP Q R q p1))) (XX (AM g) (XN)) 0 0 (AM g) := by
  refine entry (cc := cX7_answerAt) (maxL := 7) (ret := (some .int)) (by decide) rfl (Nat.le_of_ble_eq_true rfl) ?_
  intro p e s m args below meth c hx hb hrt9 hml hown hts hlk hnt hnm hev hS ls hl
  have hown : s.vm.findClass RX7 = some m.cls := hown
  have hK := hev.1
  have hl : lv_has ls 7 [(0, .ref g), (1, .int (nI q)), (2, .int (nI p1))] := hl
  have h64 := ok.le
  refine lv_iconst (v := nI 0) hx hb dX7_answerAt_0 (by decide) ?_
  refine lv_istore_n (lv' := [(3, .int (nI 0)), (0, .ref g), (1, .int (nI q)), (2, .int (nI p1))]) hx hb dX7_answerAt_1 rfl hl (by decide) rfl (fun ls hl => ?_)
  refine lv_iconst (v := -1) hx hb dX7_answerAt_2 (by decide) ?_
  refine lv_istore (lv' := [(4, .int ((-1))), (3, .int (nI 0)), (0, .ref g), (1, .int (nI q)), (2, .int (nI p1))]) hx hb dX7_answerAt_3 hl (by decide) rfl (fun ls hl => ?_)
  refine lv_iconst (v := nI 0) hx hb dX7_answerAt_5 (by decide) ?_
  refine lv_istore (lv' := [(5, .int (nI 0)), (4, .int ((-1))), (3, .int (nI 0)), (0, .ref g), (1, .int (nI q)), (2, .int (nI p1))]) hx hb dX7_answerAt_6 hl (by decide) rfl (fun ls hl => ?_)
  have loop8 : ∀ (n : Nat) (i : Nat) (H9 : Heap) (locs9 : List Loc), rN R - i < n → (i ≤ rN R) → (RM D T g S Y H9) → (va_S (AM g) s.heap H9 locs9) → ∀ (ls : Array Slot), lv_has ls 7 [(5, .int (nI i)), (4, .int ((nO (aAt Q R q p1 i)))), (3, .int (nI (aTo Q R q i))), (0, .ref g), (1, .int (nI q)), (2, .int (nI p1))] → W p l e (rmL 1 0 0) s m args below meth c H9 locs9 (0) (0) (vx_MQ below (QI (AM g) (fun r H1 => RM D T g S Y H1 ∧ r = nO (aP Q R q p1))) (XX (AM g) (XN)) args s 0 0 (AM g)) (F0 m 8 ls []) := by
    intro n
    induction n with
    | zero => intro i H9 locs9 hfuel; exact absurd hfuel (Nat.not_lt_zero _)
    | succ n ih8 =>
      intro i H9 locs9 hfuel hi hR hS ls hl
      refine lv_iload hx hb dX7_answerAt_8 (lv_at hl 0 rfl) ?_
      refine lv_aload_n hx hb dX7_answerAt_10 rfl (lv_at hl 3 rfl) ?_
      refine m_get hx hb hts in_X7_answerAt_RX7 hown hK hR 12 (by decide) (hts (.fieldLink RX7 81 "ArcheloftModel" "rows" "I") (by decide +kernel)) rfl (v := .int (S 12)) rfl dX7_answerAt_11 ?_
      refine x_top (y := (nI (rN R))) (hrw.1) ?_
      refine y_icmp_ge hx hb (by omega) (by omega) (tgt := 90) dX7_answerAt_14 (by decide) (fun c14 => ?_) (fun c14 => ?_)
      · refine lv_iload hx hb dX7_answerAt_90 (lv_at hl 1 rfl) ?_
        exact r_i hx hb hrt9 hlk hS (Nat.le_of_ble_eq_true rfl) (Nat.le_of_ble_eq_true rfl) dX7_answerAt_92 (⟨hR, by rw [show i = rN R by omega]; rfl⟩)
      · refine lv_aload_n hx hb dX7_answerAt_17 rfl (lv_at hl 3 rfl) ?_
        refine lv_iload_n hx hb dX7_answerAt_18 rfl (lv_at hl 4 rfl) ?_
        refine lv_aload_n hx hb dX7_answerAt_19 rfl (lv_at hl 3 rfl) ?_
        refine m_get hx hb hts in_X7_answerAt_RX7 hown hK hR 9 (by decide) (hts (.fieldLink RX7 32 "ArcheloftModel" "setOf" "[I") (by decide +kernel)) rfl (v := .ref (g + 8)) rfl dX7_answerAt_20 ?_
        refine lv_iload hx hb dX7_answerAt_23 (lv_at hl 0 rfl) ?_
        refine m_ld8 (i := i) hx hb hK hR (by omega) dX7_answerAt_25 ?_
        refine x_top (y := (nI (rS R i))) (hrw.2.2.1 i (by omega)) ?_
        have hto := aTo_le (Q := Q) ok (q := q) i (by omega)
        have hz32 := ok.z (show i < rN R by omega)
        refine k_ip (k_V (As := [.int (nI q), .int (nI (rS R i))]) (rest := []) ⟨hx, hb, hml, hown, hts⟩ hev hS (c_X7_answersBy l hR (Nat.lt_of_lt_of_le hq iQ.1) (hQ.2 q hq).1 (hQ.2 q hq).2.1 (hQ.2 q hq).2.2 (iQ.2 q hq).1 (iQ.2 q hq).2.1 (iQ.2 q hq).2.2 (ok.1 i (by omega))) (cwV 2 hts gX7_answerAt_X7_answersBy rfl rfl rfl (by decide +kernel) ⟨Nat.le_of_ble_eq_true rfl, Nat.le_of_ble_eq_true rfl⟩) (x_recv hK hR.1 rfl) rfl hl.1 (Nat.le_of_ble_eq_true rfl) dX7_answerAt_26 (Nat.le_of_ble_eq_true rfl) (Nat.le_of_ble_eq_true rfl)) hS hnt hlk (fun _ _ h _ => h.elim) (Nat.le_of_ble_eq_true rfl) (Nat.le_of_ble_eq_true rfl) (fun rq1_ H1 locs1 hP hz1 hS => ?_)
        refine W.widen (k := 0) (n := 0) (Nat.le_refl _) (Nat.le_refl _) ?_
        have hR : RM D T g S Y H1 := by rw [hP.1]; exact hR
        have era := hP.2
        refine x_top (y := (bI (ansQ Q q (rS R i)))) (era) ?_
        refine y_bif_eq hx hb (tgt := 42) dX7_answerAt_29 (by decide) (fun c29 => ?_) (fun c29 => ?_)
        · refine lv_iconst (v := nI 0) hx hb dX7_answerAt_42 (by decide) ?_
          refine lv_istore (lv' := [(6, .int (nI 0)), (5, .int (nI i)), (4, .int ((nO (aAt Q R q p1 i)))), (3, .int (nI (aTo Q R q i))), (0, .ref g), (1, .int (nI q)), (2, .int (nI p1))]) hx hb dX7_answerAt_43 hl (by decide) rfl (fun ls hl => ?_)
          refine lv_iload_n hx hb dX7_answerAt_45 rfl (lv_at hl 6 rfl) ?_
          refine lv_iload_n hx hb dX7_answerAt_46 rfl (lv_at hl 3 rfl) ?_
          refine y_icmp_lt hx hb (by omega) (by omega) (tgt := 75) dX7_answerAt_47 (by decide) (fun c47 => ?_) (fun c47 => ?_)
          · refine lv_iload hx hb dX7_answerAt_75 (lv_at hl 2 rfl) ?_
            refine x_top (y := ((nO (aAt Q R q p1 (i + 1))))) (by rw [aAt_no (Or.inl c47)]) ?_
            refine lv_istore (lv' := [(4, .int ((nO (aAt Q R q p1 (i + 1))))), (6, .int (nI 0)), (5, .int (nI i)), (3, .int (nI (aTo Q R q i))), (0, .ref g), (1, .int (nI q)), (2, .int (nI p1))]) hx hb dX7_answerAt_77 hl (by decide) rfl (fun ls hl => ?_)
            refine lv_iload_n hx hb dX7_answerAt_79 rfl (lv_at hl 3 rfl) ?_
            refine lv_iload hx hb dX7_answerAt_80 (lv_at hl 1 rfl) ?_
            refine y_iadd hx hb dX7_answerAt_82 ?_
            refine x_top (y := (nI (aTo Q R q (i + 1)))) (by rw [aTo_f c29]; rfl) ?_
            refine lv_istore_n (lv' := [(3, .int (nI (aTo Q R q (i + 1)))), (4, .int ((nO (aAt Q R q p1 (i + 1))))), (6, .int (nI 0)), (5, .int (nI i)), (0, .ref g), (1, .int (nI q)), (2, .int (nI p1))]) hx hb dX7_answerAt_83 rfl hl (by decide) rfl (fun ls hl => ?_)
            refine lv_iinc (v := (nI (i + 1))) (lv' := [(5, .int (nI (i + 1))), (3, .int (nI (aTo Q R q (i + 1)))), (4, .int ((nO (aAt Q R q p1 (i + 1))))), (6, .int (nI 0)), (0, .ref g), (1, .int (nI q)), (2, .int (nI p1))]) hx hb dX7_answerAt_84 hl (k := 3) rfl (nI_inc _) (by decide) rfl (fun ls hl => ?_)
            refine lv_goto (tgt := 8) hx hb dX7_answerAt_87 (by decide) ?_
            exact ih8 (i + 1) H1 locs1 (by omega) (by omega) hR hS ls (lv_sub hl [0, 2, 1, 4, 5, 6] rfl)
          · refine lv_iload_n hx hb dX7_answerAt_50 rfl (lv_at hl 6 rfl) ?_
            refine lv_iload_n hx hb dX7_answerAt_51 rfl (lv_at hl 3 rfl) ?_
            refine lv_iload hx hb dX7_answerAt_52 (lv_at hl 0 rfl) ?_
            refine y_iadd hx hb dX7_answerAt_54 ?_
            refine y_icmp_ge hx hb (by omega) (by omega) (tgt := 75) dX7_answerAt_55 (by decide) (fun c55 => ?_) (fun c55 => ?_)
            · refine lv_iload hx hb dX7_answerAt_75 (lv_at hl 2 rfl) ?_
              refine x_top (y := ((nO (aAt Q R q p1 (i + 1))))) (by rw [aAt_no (Or.inr (by rw [aTo_f c29]; omega))]) ?_
              refine lv_istore (lv' := [(4, .int ((nO (aAt Q R q p1 (i + 1))))), (6, .int (nI 0)), (5, .int (nI i)), (3, .int (nI (aTo Q R q i))), (0, .ref g), (1, .int (nI q)), (2, .int (nI p1))]) hx hb dX7_answerAt_77 hl (by decide) rfl (fun ls hl => ?_)
              refine lv_iload_n hx hb dX7_answerAt_79 rfl (lv_at hl 3 rfl) ?_
              refine lv_iload hx hb dX7_answerAt_80 (lv_at hl 1 rfl) ?_
              refine y_iadd hx hb dX7_answerAt_82 ?_
              refine x_top (y := (nI (aTo Q R q (i + 1)))) (by rw [aTo_f c29]; rfl) ?_
              refine lv_istore_n (lv' := [(3, .int (nI (aTo Q R q (i + 1)))), (4, .int ((nO (aAt Q R q p1 (i + 1))))), (6, .int (nI 0)), (5, .int (nI i)), (0, .ref g), (1, .int (nI q)), (2, .int (nI p1))]) hx hb dX7_answerAt_83 rfl hl (by decide) rfl (fun ls hl => ?_)
              refine lv_iinc (v := (nI (i + 1))) (lv' := [(5, .int (nI (i + 1))), (3, .int (nI (aTo Q R q (i + 1)))), (4, .int ((nO (aAt Q R q p1 (i + 1))))), (6, .int (nI 0)), (0, .ref g), (1, .int (nI q)), (2, .int (nI p1))]) hx hb dX7_answerAt_84 hl (k := 3) rfl (nI_inc _) (by decide) rfl (fun ls hl => ?_)
              refine lv_goto (tgt := 8) hx hb dX7_answerAt_87 (by decide) ?_
              exact ih8 (i + 1) H1 locs1 (by omega) (by omega) hR hS ls (lv_sub hl [0, 2, 1, 4, 5, 6] rfl)
            · exact absurd c55 (by omega)
        · refine lv_aload_n hx hb dX7_answerAt_32 rfl (lv_at hl 3 rfl) ?_
          refine m_get hx hb hts in_X7_answerAt_RX7 hown hK hR 10 (by decide) (hts (.fieldLink RX7 35 "ArcheloftModel" "size" "[I") (by decide +kernel)) rfl (v := .ref (g + 9)) rfl dX7_answerAt_33 ?_
          refine lv_iload hx hb dX7_answerAt_36 (lv_at hl 0 rfl) ?_
          refine m_ld9 (i := i) hx hb hK hR (by omega) dX7_answerAt_38 ?_
          refine x_top (y := (nI (rZ R i))) (by rw [hrw.2.2.2.1 i (by omega), if_pos (by omega)]) ?_
          refine lv_goto (tgt := 43) hx hb dX7_answerAt_39 (by decide) ?_
          refine lv_istore (lv' := [(6, .int (nI (rZ R i))), (5, .int (nI i)), (4, .int ((nO (aAt Q R q p1 i)))), (3, .int (nI (aTo Q R q i))), (0, .ref g), (1, .int (nI q)), (2, .int (nI p1))]) hx hb dX7_answerAt_43 hl (by decide) rfl (fun ls hl => ?_)
          refine lv_iload_n hx hb dX7_answerAt_45 rfl (lv_at hl 6 rfl) ?_
          refine lv_iload_n hx hb dX7_answerAt_46 rfl (lv_at hl 3 rfl) ?_
          refine y_icmp_lt hx hb (by omega) (by omega) (tgt := 75) dX7_answerAt_47 (by decide) (fun c47 => ?_) (fun c47 => ?_)
          · refine lv_iload hx hb dX7_answerAt_75 (lv_at hl 2 rfl) ?_
            refine x_top (y := ((nO (aAt Q R q p1 (i + 1))))) (by rw [aAt_no (Or.inl c47)]) ?_
            refine lv_istore (lv' := [(4, .int ((nO (aAt Q R q p1 (i + 1))))), (6, .int (nI (rZ R i))), (5, .int (nI i)), (3, .int (nI (aTo Q R q i))), (0, .ref g), (1, .int (nI q)), (2, .int (nI p1))]) hx hb dX7_answerAt_77 hl (by decide) rfl (fun ls hl => ?_)
            refine lv_iload_n hx hb dX7_answerAt_79 rfl (lv_at hl 3 rfl) ?_
            refine lv_iload hx hb dX7_answerAt_80 (lv_at hl 1 rfl) ?_
            refine y_iadd hx hb dX7_answerAt_82 ?_
            refine x_top (y := (nI (aTo Q R q (i + 1)))) (by rw [aTo_t c29]) ?_
            refine lv_istore_n (lv' := [(3, .int (nI (aTo Q R q (i + 1)))), (4, .int ((nO (aAt Q R q p1 (i + 1))))), (6, .int (nI (rZ R i))), (5, .int (nI i)), (0, .ref g), (1, .int (nI q)), (2, .int (nI p1))]) hx hb dX7_answerAt_83 rfl hl (by decide) rfl (fun ls hl => ?_)
            refine lv_iinc (v := (nI (i + 1))) (lv' := [(5, .int (nI (i + 1))), (3, .int (nI (aTo Q R q (i + 1)))), (4, .int ((nO (aAt Q R q p1 (i + 1))))), (6, .int (nI (rZ R i))), (0, .ref g), (1, .int (nI q)), (2, .int (nI p1))]) hx hb dX7_answerAt_84 hl (k := 3) rfl (nI_inc _) (by decide) rfl (fun ls hl => ?_)
            refine lv_goto (tgt := 8) hx hb dX7_answerAt_87 (by decide) ?_
            exact ih8 (i + 1) H1 locs1 (by omega) (by omega) hR hS ls (lv_sub hl [0, 2, 1, 4, 5, 6] rfl)
          · refine lv_iload_n hx hb dX7_answerAt_50 rfl (lv_at hl 6 rfl) ?_
            refine lv_iload_n hx hb dX7_answerAt_51 rfl (lv_at hl 3 rfl) ?_
            refine lv_iload hx hb dX7_answerAt_52 (lv_at hl 0 rfl) ?_
            refine y_iadd hx hb dX7_answerAt_54 ?_
            refine y_icmp_ge hx hb (by omega) (by omega) (tgt := 75) dX7_answerAt_55 (by decide) (fun c55 => ?_) (fun c55 => ?_)
            · refine lv_iload hx hb dX7_answerAt_75 (lv_at hl 2 rfl) ?_
              refine x_top (y := ((nO (aAt Q R q p1 (i + 1))))) (by rw [aAt_no (Or.inr (by rw [aTo_t c29]; omega))]) ?_
              refine lv_istore (lv' := [(4, .int ((nO (aAt Q R q p1 (i + 1))))), (6, .int (nI (rZ R i))), (5, .int (nI i)), (3, .int (nI (aTo Q R q i))), (0, .ref g), (1, .int (nI q)), (2, .int (nI p1))]) hx hb dX7_answerAt_77 hl (by decide) rfl (fun ls hl => ?_)
              refine lv_iload_n hx hb dX7_answerAt_79 rfl (lv_at hl 3 rfl) ?_
              refine lv_iload hx hb dX7_answerAt_80 (lv_at hl 1 rfl) ?_
              refine y_iadd hx hb dX7_answerAt_82 ?_
              refine x_top (y := (nI (aTo Q R q (i + 1)))) (by rw [aTo_t c29]) ?_
              refine lv_istore_n (lv' := [(3, .int (nI (aTo Q R q (i + 1)))), (4, .int ((nO (aAt Q R q p1 (i + 1))))), (6, .int (nI (rZ R i))), (5, .int (nI i)), (0, .ref g), (1, .int (nI q)), (2, .int (nI p1))]) hx hb dX7_answerAt_83 rfl hl (by decide) rfl (fun ls hl => ?_)
              refine lv_iinc (v := (nI (i + 1))) (lv' := [(5, .int (nI (i + 1))), (3, .int (nI (aTo Q R q (i + 1)))), (4, .int ((nO (aAt Q R q p1 (i + 1))))), (6, .int (nI (rZ R i))), (0, .ref g), (1, .int (nI q)), (2, .int (nI p1))]) hx hb dX7_answerAt_84 hl (k := 3) rfl (nI_inc _) (by decide) rfl (fun ls hl => ?_)
              refine lv_goto (tgt := 8) hx hb dX7_answerAt_87 (by decide) ?_
              exact ih8 (i + 1) H1 locs1 (by omega) (by omega) hR hS ls (lv_sub hl [0, 2, 1, 4, 5, 6] rfl)
            · refine lv_aload_n hx hb dX7_answerAt_58 rfl (lv_at hl 4 rfl) ?_
              refine m_get hx hb hts in_X7_answerAt_RX7 hown hK hR 11 (by decide) (hts (.fieldLink RX7 38 "ArcheloftModel" "places" "[I") (by decide +kernel)) rfl (v := .ref (g + 10)) rfl dX7_answerAt_59 ?_
              refine lv_bipush (v := nI 32) hx hb dX7_answerAt_62 (by decide) ?_
              refine lv_iload hx hb dX7_answerAt_64 (lv_at hl 1 rfl) ?_
              refine y_imul hx hb dX7_answerAt_66 ?_
              refine lv_iload_n hx hb dX7_answerAt_67 rfl (lv_at hl 6 rfl) ?_
              refine y_iadd hx hb dX7_answerAt_68 ?_
              refine lv_iload_n hx hb dX7_answerAt_69 rfl (lv_at hl 3 rfl) ?_
              refine y_isub hx hb (by omega) dX7_answerAt_70 ?_
              refine m_ld10 (i := ((32 * i) + p1) - (aTo Q R q i)) hx hb hK hR (by omega) dX7_answerAt_71 ?_
              refine x_top (y := (nI (rM R i (p1 - aTo Q R q i)))) (by rw [show 32 * i + p1 - aTo Q R q i = 32 * i + (p1 - aTo Q R q i) by omega]; exact hrw.2.2.2.2 i _ (by omega) (by omega)) ?_
              refine lv_goto (tgt := 77) hx hb dX7_answerAt_72 (by decide) ?_
              refine x_top (y := ((nO (aAt Q R q p1 (i + 1))))) (by rw [aAt_hit (by omega) (by rw [aTo_t c29]; omega)]; rfl) ?_
              refine lv_istore (lv' := [(4, .int ((nO (aAt Q R q p1 (i + 1))))), (6, .int (nI (rZ R i))), (5, .int (nI i)), (3, .int (nI (aTo Q R q i))), (0, .ref g), (1, .int (nI q)), (2, .int (nI p1))]) hx hb dX7_answerAt_77 hl (by decide) rfl (fun ls hl => ?_)
              refine lv_iload_n hx hb dX7_answerAt_79 rfl (lv_at hl 3 rfl) ?_
              refine lv_iload hx hb dX7_answerAt_80 (lv_at hl 1 rfl) ?_
              refine y_iadd hx hb dX7_answerAt_82 ?_
              refine x_top (y := (nI (aTo Q R q (i + 1)))) (by rw [aTo_t c29]) ?_
              refine lv_istore_n (lv' := [(3, .int (nI (aTo Q R q (i + 1)))), (4, .int ((nO (aAt Q R q p1 (i + 1))))), (6, .int (nI (rZ R i))), (5, .int (nI i)), (0, .ref g), (1, .int (nI q)), (2, .int (nI p1))]) hx hb dX7_answerAt_83 rfl hl (by decide) rfl (fun ls hl => ?_)
              refine lv_iinc (v := (nI (i + 1))) (lv' := [(5, .int (nI (i + 1))), (3, .int (nI (aTo Q R q (i + 1)))), (4, .int ((nO (aAt Q R q p1 (i + 1))))), (6, .int (nI (rZ R i))), (0, .ref g), (1, .int (nI q)), (2, .int (nI p1))]) hx hb dX7_answerAt_84 hl (k := 3) rfl (nI_inc _) (by decide) rfl (fun ls hl => ?_)
              refine lv_goto (tgt := 8) hx hb dX7_answerAt_87 (by decide) ?_
              exact ih8 (i + 1) H1 locs1 (by omega) (by omega) hR hS ls (lv_sub hl [0, 2, 1, 4, 5, 6] rfl)
  exact loop8 ((rN R - 0) + 1) 0 H [] (Nat.lt_succ_self _) (Nat.zero_le _) hR hS ls (lv_sub hl [0, 1, 2, 3, 4, 5] rfl)
set_option maxHeartbeats 4000000 in
set_option maxRecDepth 100000 in
theorem c_X7_answerAtN (l : Launch) {D : va_G} {T : Nat → ClassId} {dE mi : Nat} {g : Nat} {S : Nat → Int32} {Y : Nat → Nat → Int32} {H : Heap} (hR : RM D T g S Y H) {Q : mQ} {R : mR} (hQ : RelQ S Y Q) (hrw : RelR S Y R) (ok : okR R) (iQ : InvQ Q) {q : Nat} (hq : q < Q.1) (y : Int32) (hout : inB y (aN Q R q) = false) : vx_Met l yX7_answerAt wsX7_answerAt (rmL 1 0 0) (PcE D T dE mi (AM g) H [.ref g, .int (nI q), .int y]) (QI (AM g) (fun r H1 => RM D T g S Y H1 ∧ r = -1)) (XX (AM g) (XN)) 0 0 (AM g) := by
  refine entry (cc := cX7_answerAt) (maxL := 7) (ret := (some .int)) (by decide) rfl (Nat.le_of_ble_eq_true rfl) ?_
  intro p e s m args below meth c hx hb hrt9 hml hown hts hlk hnt hnm hev hS ls hl
  have hown : s.vm.findClass RX7 = some m.cls := hown
  have hK := hev.1
  have hl : lv_has ls 7 [(0, .ref g), (1, .int (nI q)), (2, .int y)] := hl
  have h64 := ok.le
  have hto9 := aTo_le (Q := Q) ok (q := q) (rN R) (Nat.le_refl _)
  have haN : aN Q R q = aTo Q R q (rN R) := rfl
  refine lv_iconst (v := nI 0) hx hb dX7_answerAt_0 (by decide) ?_
  refine lv_istore_n (lv' := [(3, .int (nI 0)), (0, .ref g), (1, .int (nI q)), (2, .int y)]) hx hb dX7_answerAt_1 rfl hl (by decide) rfl (fun ls hl => ?_)
  refine lv_iconst (v := -1) hx hb dX7_answerAt_2 (by decide) ?_
  refine lv_istore (lv' := [(4, .int ((-1))), (3, .int (nI 0)), (0, .ref g), (1, .int (nI q)), (2, .int y)]) hx hb dX7_answerAt_3 hl (by decide) rfl (fun ls hl => ?_)
  refine lv_iconst (v := nI 0) hx hb dX7_answerAt_5 (by decide) ?_
  refine lv_istore (lv' := [(5, .int (nI 0)), (4, .int ((-1))), (3, .int (nI 0)), (0, .ref g), (1, .int (nI q)), (2, .int y)]) hx hb dX7_answerAt_6 hl (by decide) rfl (fun ls hl => ?_)
  have loop8 : ∀ (n : Nat) (i : Nat) (H9 : Heap) (locs9 : List Loc), rN R - i < n → (i ≤ rN R) → (RM D T g S Y H9) → (va_S (AM g) s.heap H9 locs9) → ∀ (ls : Array Slot), lv_has ls 7 [(5, .int (nI i)), (4, .int ((-1))), (3, .int (nI (aTo Q R q i))), (0, .ref g), (1, .int (nI q)), (2, .int y)] → W p l e (rmL 1 0 0) s m args below meth c H9 locs9 (0) (0) (vx_MQ below (QI (AM g) (fun r H1 => RM D T g S Y H1 ∧ r = -1)) (XX (AM g) (XN)) args s 0 0 (AM g)) (F0 m 8 ls []) := by
    intro n
    induction n with
    | zero => intro i H9 locs9 hfuel; exact absurd hfuel (Nat.not_lt_zero _)
    | succ n ih8 =>
      intro i H9 locs9 hfuel hi hR hS ls hl
      refine lv_iload hx hb dX7_answerAt_8 (lv_at hl 0 rfl) ?_
      refine lv_aload_n hx hb dX7_answerAt_10 rfl (lv_at hl 3 rfl) ?_
      refine m_get hx hb hts in_X7_answerAt_RX7 hown hK hR 12 (by decide) (hts (.fieldLink RX7 81 "ArcheloftModel" "rows" "I") (by decide +kernel)) rfl (v := .int (S 12)) rfl dX7_answerAt_11 ?_
      refine x_top (y := (nI (rN R))) (hrw.1) ?_
      refine y_icmp_ge hx hb (by omega) (by omega) (tgt := 90) dX7_answerAt_14 (by decide) (fun c14 => ?_) (fun c14 => ?_)
      · refine lv_iload hx hb dX7_answerAt_90 (lv_at hl 1 rfl) ?_
        exact r_i hx hb hrt9 hlk hS (Nat.le_of_ble_eq_true rfl) (Nat.le_of_ble_eq_true rfl) dX7_answerAt_92 (⟨hR, rfl⟩)
      · refine lv_aload_n hx hb dX7_answerAt_17 rfl (lv_at hl 3 rfl) ?_
        refine lv_iload_n hx hb dX7_answerAt_18 rfl (lv_at hl 4 rfl) ?_
        refine lv_aload_n hx hb dX7_answerAt_19 rfl (lv_at hl 3 rfl) ?_
        refine m_get hx hb hts in_X7_answerAt_RX7 hown hK hR 9 (by decide) (hts (.fieldLink RX7 32 "ArcheloftModel" "setOf" "[I") (by decide +kernel)) rfl (v := .ref (g + 8)) rfl dX7_answerAt_20 ?_
        refine lv_iload hx hb dX7_answerAt_23 (lv_at hl 0 rfl) ?_
        refine m_ld8 (i := i) hx hb hK hR (by omega) dX7_answerAt_25 ?_
        refine x_top (y := (nI (rS R i))) (hrw.2.2.1 i (by omega)) ?_
        have hto := aTo_le (Q := Q) ok (q := q) i (by omega)
        have hz32 := ok.z (show i < rN R by omega)
        refine k_ip (k_V (As := [.int (nI q), .int (nI (rS R i))]) (rest := []) ⟨hx, hb, hml, hown, hts⟩ hev hS (c_X7_answersBy l hR (Nat.lt_of_lt_of_le hq iQ.1) (hQ.2 q hq).1 (hQ.2 q hq).2.1 (hQ.2 q hq).2.2 (iQ.2 q hq).1 (iQ.2 q hq).2.1 (iQ.2 q hq).2.2 (ok.1 i (by omega))) (cwV 2 hts gX7_answerAt_X7_answersBy rfl rfl rfl (by decide +kernel) ⟨Nat.le_of_ble_eq_true rfl, Nat.le_of_ble_eq_true rfl⟩) (x_recv hK hR.1 rfl) rfl hl.1 (Nat.le_of_ble_eq_true rfl) dX7_answerAt_26 (Nat.le_of_ble_eq_true rfl) (Nat.le_of_ble_eq_true rfl)) hS hnt hlk (fun _ _ h _ => h.elim) (Nat.le_of_ble_eq_true rfl) (Nat.le_of_ble_eq_true rfl) (fun rq1_ H1 locs1 hP hz1 hS => ?_)
        refine W.widen (k := 0) (n := 0) (Nat.le_refl _) (Nat.le_refl _) ?_
        have hR : RM D T g S Y H1 := by rw [hP.1]; exact hR
        have era := hP.2
        refine x_top (y := (bI (ansQ Q q (rS R i)))) (era) ?_
        refine y_bif_eq hx hb (tgt := 42) dX7_answerAt_29 (by decide) (fun c29 => ?_) (fun c29 => ?_)
        · refine lv_iconst (v := nI 0) hx hb dX7_answerAt_42 (by decide) ?_
          refine lv_istore (lv' := [(6, .int (nI 0)), (5, .int (nI i)), (4, .int ((-1))), (3, .int (nI (aTo Q R q i))), (0, .ref g), (1, .int (nI q)), (2, .int y)]) hx hb dX7_answerAt_43 hl (by decide) rfl (fun ls hl => ?_)
          refine lv_iload_n hx hb dX7_answerAt_45 rfl (lv_at hl 6 rfl) ?_
          refine lv_iload_n hx hb dX7_answerAt_46 rfl (lv_at hl 3 rfl) ?_
          refine lv_icmp_lt (tgt := 75) hx hb dX7_answerAt_47 (by decide) (fun c47 => ?_) (fun c47 => ?_)
          · refine lv_iload hx hb dX7_answerAt_75 (lv_at hl 2 rfl) ?_
            refine lv_istore (lv' := [(4, .int ((-1))), (6, .int (nI 0)), (5, .int (nI i)), (3, .int (nI (aTo Q R q i))), (0, .ref g), (1, .int (nI q)), (2, .int y)]) hx hb dX7_answerAt_77 hl (by decide) rfl (fun ls hl => ?_)
            refine lv_iload_n hx hb dX7_answerAt_79 rfl (lv_at hl 3 rfl) ?_
            refine lv_iload hx hb dX7_answerAt_80 (lv_at hl 1 rfl) ?_
            refine y_iadd hx hb dX7_answerAt_82 ?_
            refine x_top (y := (nI (aTo Q R q (i + 1)))) (by rw [aTo_f c29]; rfl) ?_
            refine lv_istore_n (lv' := [(3, .int (nI (aTo Q R q (i + 1)))), (4, .int ((-1))), (6, .int (nI 0)), (5, .int (nI i)), (0, .ref g), (1, .int (nI q)), (2, .int y)]) hx hb dX7_answerAt_83 rfl hl (by decide) rfl (fun ls hl => ?_)
            refine lv_iinc (v := (nI (i + 1))) (lv' := [(5, .int (nI (i + 1))), (3, .int (nI (aTo Q R q (i + 1)))), (4, .int ((-1))), (6, .int (nI 0)), (0, .ref g), (1, .int (nI q)), (2, .int y)]) hx hb dX7_answerAt_84 hl (k := 3) rfl (nI_inc _) (by decide) rfl (fun ls hl => ?_)
            refine lv_goto (tgt := 8) hx hb dX7_answerAt_87 (by decide) ?_
            exact ih8 (i + 1) H1 locs1 (by omega) (by omega) hR hS ls (lv_sub hl [0, 2, 1, 4, 5, 6] rfl)
          · refine lv_iload_n hx hb dX7_answerAt_50 rfl (lv_at hl 6 rfl) ?_
            refine lv_iload_n hx hb dX7_answerAt_51 rfl (lv_at hl 3 rfl) ?_
            refine lv_iload hx hb dX7_answerAt_52 (lv_at hl 0 rfl) ?_
            refine y_iadd hx hb dX7_answerAt_54 ?_
            refine lv_icmp_ge (tgt := 75) hx hb dX7_answerAt_55 (by decide) (fun c55 => ?_) (fun c55 => ?_)
            · refine lv_iload hx hb dX7_answerAt_75 (lv_at hl 2 rfl) ?_
              refine lv_istore (lv' := [(4, .int ((-1))), (6, .int (nI 0)), (5, .int (nI i)), (3, .int (nI (aTo Q R q i))), (0, .ref g), (1, .int (nI q)), (2, .int y)]) hx hb dX7_answerAt_77 hl (by decide) rfl (fun ls hl => ?_)
              refine lv_iload_n hx hb dX7_answerAt_79 rfl (lv_at hl 3 rfl) ?_
              refine lv_iload hx hb dX7_answerAt_80 (lv_at hl 1 rfl) ?_
              refine y_iadd hx hb dX7_answerAt_82 ?_
              refine x_top (y := (nI (aTo Q R q (i + 1)))) (by rw [aTo_f c29]; rfl) ?_
              refine lv_istore_n (lv' := [(3, .int (nI (aTo Q R q (i + 1)))), (4, .int ((-1))), (6, .int (nI 0)), (5, .int (nI i)), (0, .ref g), (1, .int (nI q)), (2, .int y)]) hx hb dX7_answerAt_83 rfl hl (by decide) rfl (fun ls hl => ?_)
              refine lv_iinc (v := (nI (i + 1))) (lv' := [(5, .int (nI (i + 1))), (3, .int (nI (aTo Q R q (i + 1)))), (4, .int ((-1))), (6, .int (nI 0)), (0, .ref g), (1, .int (nI q)), (2, .int y)]) hx hb dX7_answerAt_84 hl (k := 3) rfl (nI_inc _) (by decide) rfl (fun ls hl => ?_)
              refine lv_goto (tgt := 8) hx hb dX7_answerAt_87 (by decide) ?_
              exact ih8 (i + 1) H1 locs1 (by omega) (by omega) hR hS ls (lv_sub hl [0, 2, 1, 4, 5, 6] rfl)
            · exact absurd (by
                obtain ⟨jy, hjy, rfl⟩ := nI_of (x := y) (fun z => c47 (Int32.lt_of_lt_of_le z (nI_pos' (by omega))))
                refine decide_eq_true ⟨nI_pos' hjy, nI_lt (Nat.lt_of_lt_of_le ((nI_ltI hjy (by omega)).mp (Int32.not_le.mp c55)) ?_) (by omega)⟩
                exact Nat.le_trans (Nat.le_of_eq (by rw [aTo_f c29, Nat.add_zero])) (aTo_le2 (show i + 1 ≤ rN R by omega)) : inB y (aN Q R q) = true) (by rw [hout]; decide)
        · refine lv_aload_n hx hb dX7_answerAt_32 rfl (lv_at hl 3 rfl) ?_
          refine m_get hx hb hts in_X7_answerAt_RX7 hown hK hR 10 (by decide) (hts (.fieldLink RX7 35 "ArcheloftModel" "size" "[I") (by decide +kernel)) rfl (v := .ref (g + 9)) rfl dX7_answerAt_33 ?_
          refine lv_iload hx hb dX7_answerAt_36 (lv_at hl 0 rfl) ?_
          refine m_ld9 (i := i) hx hb hK hR (by omega) dX7_answerAt_38 ?_
          refine x_top (y := (nI (rZ R i))) (by rw [hrw.2.2.2.1 i (by omega), if_pos (by omega)]) ?_
          refine lv_goto (tgt := 43) hx hb dX7_answerAt_39 (by decide) ?_
          refine lv_istore (lv' := [(6, .int (nI (rZ R i))), (5, .int (nI i)), (4, .int ((-1))), (3, .int (nI (aTo Q R q i))), (0, .ref g), (1, .int (nI q)), (2, .int y)]) hx hb dX7_answerAt_43 hl (by decide) rfl (fun ls hl => ?_)
          refine lv_iload_n hx hb dX7_answerAt_45 rfl (lv_at hl 6 rfl) ?_
          refine lv_iload_n hx hb dX7_answerAt_46 rfl (lv_at hl 3 rfl) ?_
          refine lv_icmp_lt (tgt := 75) hx hb dX7_answerAt_47 (by decide) (fun c47 => ?_) (fun c47 => ?_)
          · refine lv_iload hx hb dX7_answerAt_75 (lv_at hl 2 rfl) ?_
            refine lv_istore (lv' := [(4, .int ((-1))), (6, .int (nI (rZ R i))), (5, .int (nI i)), (3, .int (nI (aTo Q R q i))), (0, .ref g), (1, .int (nI q)), (2, .int y)]) hx hb dX7_answerAt_77 hl (by decide) rfl (fun ls hl => ?_)
            refine lv_iload_n hx hb dX7_answerAt_79 rfl (lv_at hl 3 rfl) ?_
            refine lv_iload hx hb dX7_answerAt_80 (lv_at hl 1 rfl) ?_
            refine y_iadd hx hb dX7_answerAt_82 ?_
            refine x_top (y := (nI (aTo Q R q (i + 1)))) (by rw [aTo_t c29]) ?_
            refine lv_istore_n (lv' := [(3, .int (nI (aTo Q R q (i + 1)))), (4, .int ((-1))), (6, .int (nI (rZ R i))), (5, .int (nI i)), (0, .ref g), (1, .int (nI q)), (2, .int y)]) hx hb dX7_answerAt_83 rfl hl (by decide) rfl (fun ls hl => ?_)
            refine lv_iinc (v := (nI (i + 1))) (lv' := [(5, .int (nI (i + 1))), (3, .int (nI (aTo Q R q (i + 1)))), (4, .int ((-1))), (6, .int (nI (rZ R i))), (0, .ref g), (1, .int (nI q)), (2, .int y)]) hx hb dX7_answerAt_84 hl (k := 3) rfl (nI_inc _) (by decide) rfl (fun ls hl => ?_)
            refine lv_goto (tgt := 8) hx hb dX7_answerAt_87 (by decide) ?_
            exact ih8 (i + 1) H1 locs1 (by omega) (by omega) hR hS ls (lv_sub hl [0, 2, 1, 4, 5, 6] rfl)
          · refine lv_iload_n hx hb dX7_answerAt_50 rfl (lv_at hl 6 rfl) ?_
            refine lv_iload_n hx hb dX7_answerAt_51 rfl (lv_at hl 3 rfl) ?_
            refine lv_iload hx hb dX7_answerAt_52 (lv_at hl 0 rfl) ?_
            refine y_iadd hx hb dX7_answerAt_54 ?_
            refine lv_icmp_ge (tgt := 75) hx hb dX7_answerAt_55 (by decide) (fun c55 => ?_) (fun c55 => ?_)
            · refine lv_iload hx hb dX7_answerAt_75 (lv_at hl 2 rfl) ?_
              refine lv_istore (lv' := [(4, .int ((-1))), (6, .int (nI (rZ R i))), (5, .int (nI i)), (3, .int (nI (aTo Q R q i))), (0, .ref g), (1, .int (nI q)), (2, .int y)]) hx hb dX7_answerAt_77 hl (by decide) rfl (fun ls hl => ?_)
              refine lv_iload_n hx hb dX7_answerAt_79 rfl (lv_at hl 3 rfl) ?_
              refine lv_iload hx hb dX7_answerAt_80 (lv_at hl 1 rfl) ?_
              refine y_iadd hx hb dX7_answerAt_82 ?_
              refine x_top (y := (nI (aTo Q R q (i + 1)))) (by rw [aTo_t c29]) ?_
              refine lv_istore_n (lv' := [(3, .int (nI (aTo Q R q (i + 1)))), (4, .int ((-1))), (6, .int (nI (rZ R i))), (5, .int (nI i)), (0, .ref g), (1, .int (nI q)), (2, .int y)]) hx hb dX7_answerAt_83 rfl hl (by decide) rfl (fun ls hl => ?_)
              refine lv_iinc (v := (nI (i + 1))) (lv' := [(5, .int (nI (i + 1))), (3, .int (nI (aTo Q R q (i + 1)))), (4, .int ((-1))), (6, .int (nI (rZ R i))), (0, .ref g), (1, .int (nI q)), (2, .int y)]) hx hb dX7_answerAt_84 hl (k := 3) rfl (nI_inc _) (by decide) rfl (fun ls hl => ?_)
              refine lv_goto (tgt := 8) hx hb dX7_answerAt_87 (by decide) ?_
              exact ih8 (i + 1) H1 locs1 (by omega) (by omega) hR hS ls (lv_sub hl [0, 2, 1, 4, 5, 6] rfl)
            · exact absurd (by
                obtain ⟨jy, hjy, rfl⟩ := nI_of (x := y) (fun z => c47 (Int32.lt_of_lt_of_le z (nI_pos' (by omega))))
                refine decide_eq_true ⟨nI_pos' hjy, nI_lt (Nat.lt_of_lt_of_le ((nI_ltI hjy (by omega)).mp (Int32.not_le.mp c55)) ?_) (by omega)⟩
                exact Nat.le_trans (Nat.le_of_eq (by rw [aTo_t c29])) (aTo_le2 (show i + 1 ≤ rN R by omega)) : inB y (aN Q R q) = true) (by rw [hout]; decide)
  exact loop8 ((rN R - 0) + 1) 0 H [] (Nat.lt_succ_self _) (Nat.zero_le _) hR hS ls (lv_sub hl [0, 1, 2, 3, 4, 5] rfl)
set_option maxRecDepth 100000 in
theorem in_X7_answers_RX7 : ∀ w ∈ wsX70, w ∈ wsX7_answers := by decide +kernel
set_option maxHeartbeats 4000000 in
set_option maxRecDepth 100000 in
theorem c_X7_answers (l : Launch) {D : va_G} {T : Nat → ClassId} {dE mi : Nat} {g : Nat} {S : Nat → Int32} {Y : Nat → Nat → Int32} {H : Heap} (hR : RM D T g S Y H) {M : mSt} (hM : Rel S Y M) {b : Nat} (hI : Inv b M) (x : Int32) : vx_Met l yX7_answers wsX7_answers (rmL 2 0 0) (PcE D T dE mi (AM g) H [.ref g, .int x]) (QI (AM g) (fun r H1 => PM D T g (oAnswers M x) r H1)) (XX (AM g) (XN)) 0 0 (AM g) := by
  refine entry (cc := cX7_answers) (maxL := 2) (ret := (some .int)) (by decide) rfl (Nat.le_of_ble_eq_true rfl) ?_
  intro p e s m args below meth c hx hb hrt9 hml hown hts hlk hnt hnm hev hS ls hl
  have hown : s.vm.findClass RX7 = some m.cls := hown
  have hK := hev.1
  have hl : lv_has ls 2 [(0, .ref g), (1, .int x)] := hl
  obtain ⟨hT, hE, hRw, hQ, hW, hY⟩ := id hM
  obtain ⟨iE, iR, iQ, iW, iY, hb9, hh⟩ := id hI
  have hb0 : b ≤ 1000000 := Nat.le_trans hb9 (by decide)
  have okk := iR.ok iE
  have h64 := okk.le
  have hq8 : (sQ M).1 < 2 ^ 31 := Nat.lt_of_le_of_lt iQ.1 (by decide)
  cases hin : inB x (sQ M).1
  · have ho : oAnswers M x = oErr M 1 := if_neg (by rw [hin]; decide)
    refine lv_aload_n hx hb dX7_answers_0 rfl (lv_at hl 0 rfl) ?_
    refine lv_iload_n hx hb dX7_answers_1 rfl (lv_at hl 1 rfl) ?_
    refine lv_aload_n hx hb dX7_answers_2 rfl (lv_at hl 0 rfl) ?_
    refine m_get hx hb hts in_X7_answers_RX7 hown hK hR 16 (by decide) (hts (.fieldLink RX7 147 "ArcheloftModel" "questions" "I") (by decide +kernel)) rfl (v := .int (S 16)) rfl dX7_answers_3 ?_
    refine x_top (y := (nI ((sQ M).1))) (hQ.1) ?_
    refine k_ip (k_V (As := [.int x, .int (nI ((sQ M).1))]) (rest := []) ⟨hx, hb, hml, hown, hts⟩ hev hS (c_X7_isIn l hR (x)) (cwV 2 hts gX7_answers_X7_isIn rfl rfl rfl (by decide +kernel) ⟨Nat.le_of_ble_eq_true rfl, Nat.le_of_ble_eq_true rfl⟩) (x_recv hK hR.1 rfl) rfl hl.1 (Nat.le_of_ble_eq_true rfl) dX7_answers_6 (Nat.le_of_ble_eq_true rfl) (Nat.le_of_ble_eq_true rfl)) hS hnt hlk (fun _ _ h _ => h.elim) (Nat.le_of_ble_eq_true rfl) (Nat.le_of_ble_eq_true rfl) (fun rq1_ H1 locs1 hP hz1 hS => ?_)
    refine W.widen (k := 0) (n := 0) (Nat.le_refl _) (Nat.le_refl _) ?_
    obtain ⟨bq_, hbq_, erbq_, hR⟩ := hP
    rw [hin] at hbq_
    subst hbq_
    have hR : RM D T g (upd S 0 (nI 1)) Y H1 := hR
    refine x_top (y := (bI false)) (erbq_) ?_
    refine y_bif_eq hx hb (tgt := 20) dX7_answers_9 (by decide) (fun c9 => ?_) (fun c9 => ?_)
    · refine lv_iconst (v := nI 0) hx hb dX7_answers_20 (by decide) ?_
      exact r_i hx hb hrt9 hlk hS (Nat.le_of_ble_eq_true rfl) (Nat.le_of_ble_eq_true rfl) dX7_answers_21 (by rw [ho]; exact PM.err (by decide) hR hM rfl)
    · exact absurd c9 (by decide)
  · obtain ⟨j1, hj1, rfl⟩ := inB_of hq8 hin
    have hl : lv_has ls 2 [(0, .ref g), (1, .int (nI j1))] := hl
    have hix := ix_nI (k := j1) (by omega)
    have ho : oAnswers M (nI j1) = oRet M (nI (aN (sQ M) (sR M) j1)) := by unfold oAnswers; rw [hix]; exact if_pos hin
    refine lv_aload_n hx hb dX7_answers_0 rfl (lv_at hl 0 rfl) ?_
    refine lv_iload_n hx hb dX7_answers_1 rfl (lv_at hl 1 rfl) ?_
    refine lv_aload_n hx hb dX7_answers_2 rfl (lv_at hl 0 rfl) ?_
    refine m_get hx hb hts in_X7_answers_RX7 hown hK hR 16 (by decide) (hts (.fieldLink RX7 147 "ArcheloftModel" "questions" "I") (by decide +kernel)) rfl (v := .int (S 16)) rfl dX7_answers_3 ?_
    refine x_top (y := (nI ((sQ M).1))) (hQ.1) ?_
    refine k_ip (k_V (As := [.int (nI j1), .int (nI ((sQ M).1))]) (rest := []) ⟨hx, hb, hml, hown, hts⟩ hev hS (c_X7_isIn l hR (nI j1)) (cwV 2 hts gX7_answers_X7_isIn rfl rfl rfl (by decide +kernel) ⟨Nat.le_of_ble_eq_true rfl, Nat.le_of_ble_eq_true rfl⟩) (x_recv hK hR.1 rfl) rfl hl.1 (Nat.le_of_ble_eq_true rfl) dX7_answers_6 (Nat.le_of_ble_eq_true rfl) (Nat.le_of_ble_eq_true rfl)) hS hnt hlk (fun _ _ h _ => h.elim) (Nat.le_of_ble_eq_true rfl) (Nat.le_of_ble_eq_true rfl) (fun rq2_ H2 locs2 hP hz2 hS => ?_)
    refine W.widen (k := 0) (n := 0) (Nat.le_refl _) (Nat.le_refl _) ?_
    obtain ⟨bq_, hbq_, erbq_, hR⟩ := hP
    rw [hin] at hbq_
    subst hbq_
    have hR : RM D T g (upd S 0 (nI 0)) Y H2 := hR
    refine x_top (y := (bI true)) (erbq_) ?_
    refine y_bif_eq hx hb (tgt := 20) dX7_answers_9 (by decide) (fun c9 => ?_) (fun c9 => ?_)
    · exact absurd c9 (by decide)
    · refine lv_aload_n hx hb dX7_answers_12 rfl (lv_at hl 0 rfl) ?_
      refine lv_iload_n hx hb dX7_answers_13 rfl (lv_at hl 1 rfl) ?_
      refine k_ip (k_V (As := [.int (nI j1)]) (rest := []) ⟨hx, hb, hml, hown, hts⟩ hev hS (c_X7_manyAnswers l hR (R := sR M) (hQ.cong rfl (fun _ _ _ => rfl)) (hRw.cong rfl (fun _ _ _ => rfl)) okk iQ hj1) (cwV 1 hts gX7_answers_X7_manyAnswers rfl rfl rfl (by decide +kernel) ⟨Nat.le_of_ble_eq_true rfl, Nat.le_of_ble_eq_true rfl⟩) (x_recv hK hR.1 rfl) rfl hl.1 (Nat.le_of_ble_eq_true rfl) dX7_answers_14 (Nat.le_of_ble_eq_true rfl) (Nat.le_of_ble_eq_true rfl)) hS hnt hlk (fun _ _ h _ => h.elim) (Nat.le_of_ble_eq_true rfl) (Nat.le_of_ble_eq_true rfl) (fun rq3_ H3 locs3 hP hz3 hS => ?_)
      refine W.widen (k := 0) (n := 0) (Nat.le_refl _) (Nat.le_refl _) ?_
      obtain ⟨hR, erm⟩ := hP
      refine x_top (y := (nI (aN (sQ M) (sR M) j1))) (erm) ?_
      refine lv_goto (tgt := 21) hx hb dX7_answers_17 (by decide) ?_
      exact r_i hx hb hrt9 hlk hS (Nat.le_of_ble_eq_true rfl) (Nat.le_of_ble_eq_true rfl) dX7_answers_21 (by rw [ho]; exact PM.ret hR hM rfl rfl)
set_option maxRecDepth 100000 in
theorem in_X7_answer_RX7 : ∀ w ∈ wsX70, w ∈ wsX7_answer := by decide +kernel
set_option maxHeartbeats 4000000 in
set_option maxRecDepth 100000 in
theorem c_X7_answer (l : Launch) {D : va_G} {T : Nat → ClassId} {dE mi : Nat} {g : Nat} {S : Nat → Int32} {Y : Nat → Nat → Int32} {H : Heap} (hR : RM D T g S Y H) {M : mSt} (hM : Rel S Y M) {b : Nat} (hI : Inv b M) (x y : Int32) : vx_Met l yX7_answer wsX7_answer (rmL 2 0 0) (PcE D T dE mi (AM g) H [.ref g, .int x, .int y]) (QI (AM g) (fun r H1 => PM D T g (oAnswer M x y) r H1)) (XX (AM g) (XN)) 0 0 (AM g) := by
  refine entry (cc := cX7_answer) (maxL := 4) (ret := (some .int)) (by decide) rfl (Nat.le_of_ble_eq_true rfl) ?_
  intro p e s m args below meth c hx hb hrt9 hml hown hts hlk hnt hnm hev hS ls hl
  have hown : s.vm.findClass RX7 = some m.cls := hown
  have hK := hev.1
  have hl : lv_has ls 4 [(0, .ref g), (1, .int x), (2, .int y)] := hl
  obtain ⟨hT, hE, hRw, hQ, hW, hY⟩ := id hM
  obtain ⟨iE, iR, iQ, iW, iY, hb9, hh⟩ := id hI
  have hb0 : b ≤ 1000000 := Nat.le_trans hb9 (by decide)
  have okk := iR.ok iE
  have h64 := okk.le
  have hq8 : (sQ M).1 < 2 ^ 31 := Nat.lt_of_le_of_lt iQ.1 (by decide)
  cases hin : inB x (sQ M).1
  · have ho : oAnswer M x y = oErr M 1 := if_neg (fun z => by rw [hin] at z; exact nomatch z.1)
    refine lv_aload_n hx hb dX7_answer_0 rfl (lv_at hl 0 rfl) ?_
    refine lv_iload_n hx hb dX7_answer_1 rfl (lv_at hl 1 rfl) ?_
    refine lv_aload_n hx hb dX7_answer_2 rfl (lv_at hl 0 rfl) ?_
    refine m_get hx hb hts in_X7_answer_RX7 hown hK hR 16 (by decide) (hts (.fieldLink RX7 147 "ArcheloftModel" "questions" "I") (by decide +kernel)) rfl (v := .int (S 16)) rfl dX7_answer_3 ?_
    refine x_top (y := (nI ((sQ M).1))) (hQ.1) ?_
    refine k_ip (k_V (As := [.int x, .int (nI ((sQ M).1))]) (rest := []) ⟨hx, hb, hml, hown, hts⟩ hev hS (c_X7_isIn l hR (x)) (cwV 2 hts gX7_answer_X7_isIn rfl rfl rfl (by decide +kernel) ⟨Nat.le_of_ble_eq_true rfl, Nat.le_of_ble_eq_true rfl⟩) (x_recv hK hR.1 rfl) rfl hl.1 (Nat.le_of_ble_eq_true rfl) dX7_answer_6 (Nat.le_of_ble_eq_true rfl) (Nat.le_of_ble_eq_true rfl)) hS hnt hlk (fun _ _ h _ => h.elim) (Nat.le_of_ble_eq_true rfl) (Nat.le_of_ble_eq_true rfl) (fun rq1_ H1 locs1 hP hz1 hS => ?_)
    refine W.widen (k := 0) (n := 0) (Nat.le_refl _) (Nat.le_refl _) ?_
    obtain ⟨bq_, hbq_, erbq_, hR⟩ := hP
    rw [hin] at hbq_
    subst hbq_
    have hR : RM D T g (upd S 0 (nI 1)) Y H1 := hR
    refine x_top (y := (bI false)) (erbq_) ?_
    refine y_bif_eq hx hb (tgt := 21) dX7_answer_9 (by decide) (fun c9 => ?_) (fun c9 => ?_)
    · refine lv_iconst (v := -1) hx hb dX7_answer_21 (by decide) ?_
      refine lv_istore_n (lv' := [(3, .int ((-1))), (0, .ref g), (1, .int x), (2, .int y)]) hx hb dX7_answer_22 rfl hl (by decide) rfl (fun ls hl => ?_)
      refine lv_aload_n hx hb dX7_answer_23 rfl (lv_at hl 1 rfl) ?_
      refine lv_iload_n hx hb dX7_answer_24 rfl (lv_at hl 0 rfl) ?_
      refine lv_iconst (v := -1) hx hb dX7_answer_25 (by decide) ?_
      refine lv_icmp_ne (tgt := 33) hx hb dX7_answer_26 (by decide) (fun c26 => ?_) (fun c26 => ?_)
      · exact absurd rfl c26
      · refine lv_iconst (v := nI 1) hx hb dX7_answer_29 (by decide) ?_
        refine lv_goto (tgt := 34) hx hb dX7_answer_30 (by decide) ?_
        refine m_put0 (v := (nI 1)) hx hb hts in_X7_answer_RX7 hown hK hS hR (hts (.fieldLink RX7 77 "ArcheloftModel" "thrown" "I") (by decide +kernel)) dX7_answer_34 (fun H2 locs2 hR hS => ?_)
        refine lv_aload_n hx hb dX7_answer_37 rfl (lv_at hl 1 rfl) ?_
        refine m_get hx hb hts in_X7_answer_RX7 hown hK hR 0 (by decide) (hts (.fieldLink RX7 77 "ArcheloftModel" "thrown" "I") (by decide +kernel)) rfl (v := .int (nI 1)) rfl dX7_answer_38 ?_
        refine y_if_le hx hb (by decide) (tgt := 48) dX7_answer_41 (by decide) (fun c41 => ?_) (fun c41 => ?_)
        · exact absurd c41 (by decide)
        · refine lv_iconst (v := nI 0) hx hb dX7_answer_44 (by decide) ?_
          refine lv_goto (tgt := 53) hx hb dX7_answer_45 (by decide) ?_
          exact r_i hx hb hrt9 hlk hS (Nat.le_of_ble_eq_true rfl) (Nat.le_of_ble_eq_true rfl) dX7_answer_53 (by rw [ho]; exact PM.err (by decide) hR hM rfl)
    · exact absurd c9 (by decide)
  · obtain ⟨j1, hj1, rfl⟩ := inB_of hq8 hin
    have hl : lv_has ls 4 [(0, .ref g), (1, .int (nI j1)), (2, .int y)] := hl
    have hix := ix_nI (k := j1) (by omega)
    cases hin2 : inB y (aN (sQ M) (sR M) j1)
    · have ho : oAnswer M (nI j1) y = oErr M 1 := if_neg (fun z => by have z2 := z.2; rw [hix, hin2] at z2; exact nomatch z2)
      refine lv_aload_n hx hb dX7_answer_0 rfl (lv_at hl 0 rfl) ?_
      refine lv_iload_n hx hb dX7_answer_1 rfl (lv_at hl 1 rfl) ?_
      refine lv_aload_n hx hb dX7_answer_2 rfl (lv_at hl 0 rfl) ?_
      refine m_get hx hb hts in_X7_answer_RX7 hown hK hR 16 (by decide) (hts (.fieldLink RX7 147 "ArcheloftModel" "questions" "I") (by decide +kernel)) rfl (v := .int (S 16)) rfl dX7_answer_3 ?_
      refine x_top (y := (nI ((sQ M).1))) (hQ.1) ?_
      refine k_ip (k_V (As := [.int (nI j1), .int (nI ((sQ M).1))]) (rest := []) ⟨hx, hb, hml, hown, hts⟩ hev hS (c_X7_isIn l hR (nI j1)) (cwV 2 hts gX7_answer_X7_isIn rfl rfl rfl (by decide +kernel) ⟨Nat.le_of_ble_eq_true rfl, Nat.le_of_ble_eq_true rfl⟩) (x_recv hK hR.1 rfl) rfl hl.1 (Nat.le_of_ble_eq_true rfl) dX7_answer_6 (Nat.le_of_ble_eq_true rfl) (Nat.le_of_ble_eq_true rfl)) hS hnt hlk (fun _ _ h _ => h.elim) (Nat.le_of_ble_eq_true rfl) (Nat.le_of_ble_eq_true rfl) (fun rq3_ H3 locs3 hP hz3 hS => ?_)
      refine W.widen (k := 0) (n := 0) (Nat.le_refl _) (Nat.le_refl _) ?_
      obtain ⟨bq_, hbq_, erbq_, hR⟩ := hP
      rw [hin] at hbq_
      subst hbq_
      have hR : RM D T g (upd S 0 (nI 0)) Y H3 := hR
      refine x_top (y := (bI true)) (erbq_) ?_
      refine y_bif_eq hx hb (tgt := 21) dX7_answer_9 (by decide) (fun c9 => ?_) (fun c9 => ?_)
      · exact absurd c9 (by decide)
      · refine lv_aload_n hx hb dX7_answer_12 rfl (lv_at hl 0 rfl) ?_
        refine lv_iload_n hx hb dX7_answer_13 rfl (lv_at hl 1 rfl) ?_
        refine lv_iload_n hx hb dX7_answer_14 rfl (lv_at hl 2 rfl) ?_
        refine k_ip (k_V (As := [.int (nI j1), .int y]) (rest := []) ⟨hx, hb, hml, hown, hts⟩ hev hS (c_X7_answerAtN l hR (R := sR M) (hQ.cong rfl (fun _ _ _ => rfl)) (hRw.cong rfl (fun _ _ _ => rfl)) okk iQ hj1 y hin2) (cwV 2 hts gX7_answer_X7_answerAt rfl rfl rfl (by decide +kernel) ⟨Nat.le_of_ble_eq_true rfl, Nat.le_of_ble_eq_true rfl⟩) (x_recv hK hR.1 rfl) rfl hl.1 (Nat.le_of_ble_eq_true rfl) dX7_answer_15 (Nat.le_of_ble_eq_true rfl) (Nat.le_of_ble_eq_true rfl)) hS hnt hlk (fun _ _ h _ => h.elim) (Nat.le_of_ble_eq_true rfl) (Nat.le_of_ble_eq_true rfl) (fun rq4_ H4 locs4 hP hz4 hS => ?_)
        refine W.widen (k := 0) (n := 0) (Nat.le_refl _) (Nat.le_refl _) ?_
        obtain ⟨hR, era⟩ := hP
        refine x_top (y := ((-1))) (era) ?_
        refine lv_goto (tgt := 22) hx hb dX7_answer_18 (by decide) ?_
        refine lv_istore_n (lv' := [(3, .int ((-1))), (0, .ref g), (1, .int (nI j1)), (2, .int y)]) hx hb dX7_answer_22 rfl hl (by decide) rfl (fun ls hl => ?_)
        refine lv_aload_n hx hb dX7_answer_23 rfl (lv_at hl 1 rfl) ?_
        refine lv_iload_n hx hb dX7_answer_24 rfl (lv_at hl 0 rfl) ?_
        refine lv_iconst (v := -1) hx hb dX7_answer_25 (by decide) ?_
        refine lv_icmp_ne (tgt := 33) hx hb dX7_answer_26 (by decide) (fun c26 => ?_) (fun c26 => ?_)
        · exact absurd rfl c26
        · refine lv_iconst (v := nI 1) hx hb dX7_answer_29 (by decide) ?_
          refine lv_goto (tgt := 34) hx hb dX7_answer_30 (by decide) ?_
          refine m_put0 (v := (nI 1)) hx hb hts in_X7_answer_RX7 hown hK hS hR (hts (.fieldLink RX7 77 "ArcheloftModel" "thrown" "I") (by decide +kernel)) dX7_answer_34 (fun H5 locs5 hR hS => ?_)
          refine lv_aload_n hx hb dX7_answer_37 rfl (lv_at hl 1 rfl) ?_
          refine m_get hx hb hts in_X7_answer_RX7 hown hK hR 0 (by decide) (hts (.fieldLink RX7 77 "ArcheloftModel" "thrown" "I") (by decide +kernel)) rfl (v := .int (nI 1)) rfl dX7_answer_38 ?_
          refine y_if_le hx hb (by decide) (tgt := 48) dX7_answer_41 (by decide) (fun c41 => ?_) (fun c41 => ?_)
          · exact absurd c41 (by decide)
          · refine lv_iconst (v := nI 0) hx hb dX7_answer_44 (by decide) ?_
            refine lv_goto (tgt := 53) hx hb dX7_answer_45 (by decide) ?_
            exact r_i hx hb hrt9 hlk hS (Nat.le_of_ble_eq_true rfl) (Nat.le_of_ble_eq_true rfl) dX7_answer_53 (by rw [ho]; exact PM.err (by decide) hR hM rfl)
    · have haN9 := aN_le (Q := sQ M) iE iR j1
      obtain ⟨j2, hj2, rfl⟩ := inB_of (Nat.lt_of_le_of_lt haN9 (by decide)) hin2
      have hl : lv_has ls 4 [(0, .ref g), (1, .int (nI j1)), (2, .int (nI j2))] := hl
      have hix2 := ix_nI (k := j2) (by omega)
      obtain ⟨k3, hk3, hk3al, -⟩ := aP_al (Q := sQ M) iR hj2
      have hk32 := iE.2.1 k3 hk3al
      have ho : oAnswer M (nI j1) (nI j2) = oRet M (handle (sE M) k3) := by unfold oAnswer; rw [hix, hix2, hk3]; exact if_pos ⟨hin, hin2⟩
      refine lv_aload_n hx hb dX7_answer_0 rfl (lv_at hl 0 rfl) ?_
      refine lv_iload_n hx hb dX7_answer_1 rfl (lv_at hl 1 rfl) ?_
      refine lv_aload_n hx hb dX7_answer_2 rfl (lv_at hl 0 rfl) ?_
      refine m_get hx hb hts in_X7_answer_RX7 hown hK hR 16 (by decide) (hts (.fieldLink RX7 147 "ArcheloftModel" "questions" "I") (by decide +kernel)) rfl (v := .int (S 16)) rfl dX7_answer_3 ?_
      refine x_top (y := (nI ((sQ M).1))) (hQ.1) ?_
      refine k_ip (k_V (As := [.int (nI j1), .int (nI ((sQ M).1))]) (rest := []) ⟨hx, hb, hml, hown, hts⟩ hev hS (c_X7_isIn l hR (nI j1)) (cwV 2 hts gX7_answer_X7_isIn rfl rfl rfl (by decide +kernel) ⟨Nat.le_of_ble_eq_true rfl, Nat.le_of_ble_eq_true rfl⟩) (x_recv hK hR.1 rfl) rfl hl.1 (Nat.le_of_ble_eq_true rfl) dX7_answer_6 (Nat.le_of_ble_eq_true rfl) (Nat.le_of_ble_eq_true rfl)) hS hnt hlk (fun _ _ h _ => h.elim) (Nat.le_of_ble_eq_true rfl) (Nat.le_of_ble_eq_true rfl) (fun rq6_ H6 locs6 hP hz6 hS => ?_)
      refine W.widen (k := 0) (n := 0) (Nat.le_refl _) (Nat.le_refl _) ?_
      obtain ⟨bq_, hbq_, erbq_, hR⟩ := hP
      rw [hin] at hbq_
      subst hbq_
      have hR : RM D T g (upd S 0 (nI 0)) Y H6 := hR
      refine x_top (y := (bI true)) (erbq_) ?_
      refine y_bif_eq hx hb (tgt := 21) dX7_answer_9 (by decide) (fun c9 => ?_) (fun c9 => ?_)
      · exact absurd c9 (by decide)
      · refine lv_aload_n hx hb dX7_answer_12 rfl (lv_at hl 0 rfl) ?_
        refine lv_iload_n hx hb dX7_answer_13 rfl (lv_at hl 1 rfl) ?_
        refine lv_iload_n hx hb dX7_answer_14 rfl (lv_at hl 2 rfl) ?_
        refine k_ip (k_V (As := [.int (nI j1), .int (nI j2)]) (rest := []) ⟨hx, hb, hml, hown, hts⟩ hev hS (c_X7_answerAt l hR (R := sR M) (hQ.cong rfl (fun _ _ _ => rfl)) (hRw.cong rfl (fun _ _ _ => rfl)) okk iQ hj1 (by omega)) (cwV 2 hts gX7_answer_X7_answerAt rfl rfl rfl (by decide +kernel) ⟨Nat.le_of_ble_eq_true rfl, Nat.le_of_ble_eq_true rfl⟩) (x_recv hK hR.1 rfl) rfl hl.1 (Nat.le_of_ble_eq_true rfl) dX7_answer_15 (Nat.le_of_ble_eq_true rfl) (Nat.le_of_ble_eq_true rfl)) hS hnt hlk (fun _ _ h _ => h.elim) (Nat.le_of_ble_eq_true rfl) (Nat.le_of_ble_eq_true rfl) (fun rq7_ H7 locs7 hP hz7 hS => ?_)
        refine W.widen (k := 0) (n := 0) (Nat.le_refl _) (Nat.le_refl _) ?_
        obtain ⟨hR, era⟩ := hP
        refine x_top (y := (nI k3)) (by rw [era, hk3]; rfl) ?_
        refine lv_goto (tgt := 22) hx hb dX7_answer_18 (by decide) ?_
        refine lv_istore_n (lv' := [(3, .int (nI k3)), (0, .ref g), (1, .int (nI j1)), (2, .int (nI j2))]) hx hb dX7_answer_22 rfl hl (by decide) rfl (fun ls hl => ?_)
        refine lv_aload_n hx hb dX7_answer_23 rfl (lv_at hl 1 rfl) ?_
        refine lv_iload_n hx hb dX7_answer_24 rfl (lv_at hl 0 rfl) ?_
        refine lv_iconst (v := -1) hx hb dX7_answer_25 (by decide) ?_
        refine lv_icmp_ne (tgt := 33) hx hb dX7_answer_26 (by decide) (fun c26 => ?_) (fun c26 => ?_)
        · refine lv_iconst (v := nI 0) hx hb dX7_answer_33 (by decide) ?_
          refine m_put0 (v := (nI 0)) hx hb hts in_X7_answer_RX7 hown hK hS hR (hts (.fieldLink RX7 77 "ArcheloftModel" "thrown" "I") (by decide +kernel)) dX7_answer_34 (fun H8 locs8 hR hS => ?_)
          refine lv_aload_n hx hb dX7_answer_37 rfl (lv_at hl 1 rfl) ?_
          refine m_get hx hb hts in_X7_answer_RX7 hown hK hR 0 (by decide) (hts (.fieldLink RX7 77 "ArcheloftModel" "thrown" "I") (by decide +kernel)) rfl (v := .int (nI 0)) rfl dX7_answer_38 ?_
          refine y_if_le hx hb (by decide) (tgt := 48) dX7_answer_41 (by decide) (fun c41 => ?_) (fun c41 => ?_)
          · refine lv_aload_n hx hb dX7_answer_48 rfl (lv_at hl 1 rfl) ?_
            refine lv_iload_n hx hb dX7_answer_49 rfl (lv_at hl 0 rfl) ?_
            refine k_ip (k_V (As := [.int (nI k3)]) (rest := []) ⟨hx, hb, hml, hown, hts⟩ hev hS (c_X7_handleOf l hR hE hk32) (cwV 1 hts gX7_answer_X7_handleOf rfl rfl rfl (by decide +kernel) ⟨Nat.le_of_ble_eq_true rfl, Nat.le_of_ble_eq_true rfl⟩) (x_recv hK hR.1 rfl) rfl hl.1 (Nat.le_of_ble_eq_true rfl) dX7_answer_50 (Nat.le_of_ble_eq_true rfl) (Nat.le_of_ble_eq_true rfl)) hS hnt hlk (fun _ _ h _ => h.elim) (Nat.le_of_ble_eq_true rfl) (Nat.le_of_ble_eq_true rfl) (fun rq9_ H9 locs9 hP hz9 hS => ?_)
            refine W.widen (k := 0) (n := 0) (Nat.le_refl _) (Nat.le_refl _) ?_
            have hR : RM D T g (upd (upd S 0 (nI 0)) 0 (nI 0)) Y H9 := by rw [hP.1]; exact hR
            have er4 := hP.2
            exact r_i hx hb hrt9 hlk hS (Nat.le_of_ble_eq_true rfl) (Nat.le_of_ble_eq_true rfl) dX7_answer_53 (by rw [ho]; exact PM.ret hR hM rfl er4)
          · exact absurd c41 (by decide)
        · exact absurd c26 (nI_m1 (by omega))
set_option maxRecDepth 100000 in
theorem in_X7_answersOneByOne_RX7 : ∀ w ∈ wsX70, w ∈ wsX7_answersOneByOne := by decide +kernel
set_option maxHeartbeats 4000000 in
set_option maxRecDepth 100000 in
theorem c_X7_answersOneByOne (l : Launch) {D : va_G} {T : Nat → ClassId} {dE mi : Nat} {g : Nat} {S : Nat → Int32} {Y : Nat → Nat → Int32} {H : Heap} (hR : RM D T g S Y H) {M : mSt} (hM : Rel S Y M) {b : Nat} (hI : Inv b M) (x : Int32) : vx_Met l yX7_answersOneByOne wsX7_answersOneByOne (rmL 1 0 0) (PcE D T dE mi (AM g) H [.ref g, .int x]) (QI (AM g) (fun r H1 => PM D T g (oOneByOne M x) r H1)) (XX (AM g) (XN)) 0 0 (AM g) := by
  refine entry (cc := cX7_answersOneByOne) (maxL := 4) (ret := (some .int)) (by decide) rfl (Nat.le_of_ble_eq_true rfl) ?_
  intro p e s m args below meth c hx hb hrt9 hml hown hts hlk hnt hnm hev hS ls hl
  have hown : s.vm.findClass RX7 = some m.cls := hown
  have hK := hev.1
  have hl : lv_has ls 4 [(0, .ref g), (1, .int x)] := hl
  obtain ⟨hT, hE, hRw, hQ, hW, hY⟩ := id hM
  obtain ⟨iE, iR, iQ, iW, iY, hb9, hh⟩ := id hI
  have hb0 : b ≤ 1000000 := Nat.le_trans hb9 (by decide)
  have okk := iR.ok iE
  have h64 := okk.le
  have hq8 : (sQ M).1 < 2 ^ 31 := Nat.lt_of_le_of_lt iQ.1 (by decide)
  cases hin : inB x (sQ M).1
  · have ho : oOneByOne M x = oErr M 1 := if_neg (by rw [hin]; decide)
    refine lv_iconst (v := nI 0) hx hb dX7_answersOneByOne_0 (by decide) ?_
    refine lv_istore_n (lv' := [(2, .int (nI 0)), (0, .ref g), (1, .int x)]) hx hb dX7_answersOneByOne_1 rfl hl (by decide) rfl (fun ls hl => ?_)
    refine lv_iconst (v := nI 0) hx hb dX7_answersOneByOne_2 (by decide) ?_
    refine lv_istore_n (lv' := [(3, .int (nI 0)), (2, .int (nI 0)), (0, .ref g), (1, .int x)]) hx hb dX7_answersOneByOne_3 rfl hl (by decide) rfl (fun ls hl => ?_)
    refine lv_aload_n hx hb dX7_answersOneByOne_4 rfl (lv_at hl 2 rfl) ?_
    refine lv_iload_n hx hb dX7_answersOneByOne_5 rfl (lv_at hl 3 rfl) ?_
    refine lv_aload_n hx hb dX7_answersOneByOne_6 rfl (lv_at hl 2 rfl) ?_
    refine m_get hx hb hts in_X7_answersOneByOne_RX7 hown hK hR 16 (by decide) (hts (.fieldLink RX7 147 "ArcheloftModel" "questions" "I") (by decide +kernel)) rfl (v := .int (S 16)) rfl dX7_answersOneByOne_7 ?_
    refine x_top (y := (nI ((sQ M).1))) (hQ.1) ?_
    refine k_ip (k_V (As := [.int x, .int (nI ((sQ M).1))]) (rest := []) ⟨hx, hb, hml, hown, hts⟩ hev hS (c_X7_isIn l hR (x)) (cwV 2 hts gX7_answersOneByOne_X7_isIn rfl rfl rfl (by decide +kernel) ⟨Nat.le_of_ble_eq_true rfl, Nat.le_of_ble_eq_true rfl⟩) (x_recv hK hR.1 rfl) rfl hl.1 (Nat.le_of_ble_eq_true rfl) dX7_answersOneByOne_10 (Nat.le_of_ble_eq_true rfl) (Nat.le_of_ble_eq_true rfl)) hS hnt hlk (fun _ _ h _ => h.elim) (Nat.le_of_ble_eq_true rfl) (Nat.le_of_ble_eq_true rfl) (fun rq1_ H1 locs1 hP hz1 hS => ?_)
    refine W.widen (k := 0) (n := 0) (Nat.le_refl _) (Nat.le_refl _) ?_
    obtain ⟨bq_, hbq_, erbq_, hR⟩ := hP
    rw [hin] at hbq_
    subst hbq_
    have hR : RM D T g (upd S 0 (nI 1)) Y H1 := hR
    refine x_top (y := (bI false)) (erbq_) ?_
    refine y_bif_eq hx hb (tgt := 59) dX7_answersOneByOne_13 (by decide) (fun c13 => ?_) (fun c13 => ?_)
    · refine lv_iload_n hx hb dX7_answersOneByOne_59 rfl (lv_at hl 1 rfl) ?_
      exact r_i hx hb hrt9 hlk hS (Nat.le_of_ble_eq_true rfl) (Nat.le_of_ble_eq_true rfl) dX7_answersOneByOne_60 (by rw [ho]; exact PM.err (by decide) hR hM rfl)
    · exact absurd c13 (by decide)
  · obtain ⟨j1, hj1, rfl⟩ := inB_of hq8 hin
    have hl : lv_has ls 4 [(0, .ref g), (1, .int (nI j1))] := hl
    have hix := ix_nI (k := j1) (by omega)
    have ho : oOneByOne M (nI j1) = oRet M (nI (cnt (fun k => mAl (sE M) k && ansQ (sQ M) j1 (mKd (sE M) k)) 32)) := by unfold oOneByOne; rw [hix]; exact if_pos hin
    refine lv_iconst (v := nI 0) hx hb dX7_answersOneByOne_0 (by decide) ?_
    refine lv_istore_n (lv' := [(2, .int (nI 0)), (0, .ref g), (1, .int (nI j1))]) hx hb dX7_answersOneByOne_1 rfl hl (by decide) rfl (fun ls hl => ?_)
    refine lv_iconst (v := nI 0) hx hb dX7_answersOneByOne_2 (by decide) ?_
    refine lv_istore_n (lv' := [(3, .int (nI 0)), (2, .int (nI 0)), (0, .ref g), (1, .int (nI j1))]) hx hb dX7_answersOneByOne_3 rfl hl (by decide) rfl (fun ls hl => ?_)
    have loop4 : ∀ (n : Nat) (i : Nat) (S9 : Nat → Int32) (H9 : Heap) (locs9 : List Loc), 32 - i < n → (i ≤ 32) → (∀ j, j ≠ 0 → S9 j = S j) → (RM D T g S9 Y H9) → (va_S (AM g) s.heap H9 locs9) → ∀ (ls : Array Slot), lv_has ls 4 [(3, .int (nI i)), (2, .int (nI (cnt (fun k => mAl (sE M) k && ansQ (sQ M) j1 (mKd (sE M) k)) i))), (0, .ref g), (1, .int (nI j1))] → W p l e (rmL 1 0 0) s m args below meth c H9 locs9 (0) (0) (vx_MQ below (QI (AM g) (fun r H1 => PM D T g (oOneByOne M (nI j1)) r H1)) (XX (AM g) (XN)) args s 0 0 (AM g)) (F0 m 4 ls []) := by
      intro n
      induction n with
      | zero => intro i S9 H9 locs9 hfuel; exact absurd hfuel (Nat.not_lt_zero _)
      | succ n ih4 =>
        intro i S9 H9 locs9 hfuel hi hS9 hR hS ls hl
        have hM9 := hM.cong0 hS9
        have hQ9 := hM9.2.2.2.1
        have hRw9 := hM9.2.2.1
        refine lv_aload_n hx hb dX7_answersOneByOne_4 rfl (lv_at hl 2 rfl) ?_
        refine lv_iload_n hx hb dX7_answersOneByOne_5 rfl (lv_at hl 3 rfl) ?_
        refine lv_aload_n hx hb dX7_answersOneByOne_6 rfl (lv_at hl 2 rfl) ?_
        refine m_get hx hb hts in_X7_answersOneByOne_RX7 hown hK hR 16 (by decide) (hts (.fieldLink RX7 147 "ArcheloftModel" "questions" "I") (by decide +kernel)) rfl (v := .int (S9 16)) rfl dX7_answersOneByOne_7 ?_
        refine x_top (y := (nI ((sQ M).1))) (hQ9.1) ?_
        refine k_ip (k_V (As := [.int (nI j1), .int (nI ((sQ M).1))]) (rest := []) ⟨hx, hb, hml, hown, hts⟩ hev hS (c_X7_isIn l hR (nI j1)) (cwV 2 hts gX7_answersOneByOne_X7_isIn rfl rfl rfl (by decide +kernel) ⟨Nat.le_of_ble_eq_true rfl, Nat.le_of_ble_eq_true rfl⟩) (x_recv hK hR.1 rfl) rfl hl.1 (Nat.le_of_ble_eq_true rfl) dX7_answersOneByOne_10 (Nat.le_of_ble_eq_true rfl) (Nat.le_of_ble_eq_true rfl)) hS hnt hlk (fun _ _ h _ => h.elim) (Nat.le_of_ble_eq_true rfl) (Nat.le_of_ble_eq_true rfl) (fun rq2_ H2 locs2 hP hz2 hS => ?_)
        refine W.widen (k := 0) (n := 0) (Nat.le_refl _) (Nat.le_refl _) ?_
        obtain ⟨bq_, hbq_, erbq_, hR⟩ := hP
        rw [hin] at hbq_
        subst hbq_
        have hR : RM D T g (upd S9 0 (nI 0)) Y H2 := hR
        refine x_top (y := (bI true)) (erbq_) ?_
        refine y_bif_eq hx hb (tgt := 59) dX7_answersOneByOne_13 (by decide) (fun c13 => ?_) (fun c13 => ?_)
        · exact absurd c13 (by decide)
        · refine lv_iload_n hx hb dX7_answersOneByOne_16 rfl (lv_at hl 0 rfl) ?_
          refine lv_bipush (v := nI 32) hx hb dX7_answersOneByOne_17 (by decide) ?_
          refine y_icmp_ge hx hb (by omega) (Nat.le_of_ble_eq_true rfl) (tgt := 59) dX7_answersOneByOne_19 (by decide) (fun c19 => ?_) (fun c19 => ?_)
          · refine lv_iload_n hx hb dX7_answersOneByOne_59 rfl (lv_at hl 1 rfl) ?_
            exact r_i hx hb hrt9 hlk hS (Nat.le_of_ble_eq_true rfl) (Nat.le_of_ble_eq_true rfl) dX7_answersOneByOne_60 (by rw [ho]; exact PM.ret hR hM9 rfl (by rw [show i = 32 by omega]))
          · refine lv_iload_n hx hb dX7_answersOneByOne_22 rfl (lv_at hl 1 rfl) ?_
            refine lv_aload_n hx hb dX7_answersOneByOne_23 rfl (lv_at hl 2 rfl) ?_
            refine m_get hx hb hts in_X7_answersOneByOne_RX7 hown hK hR 2 (by decide) (hts (.fieldLink RX7 7 "ArcheloftModel" "isAlive" "[Z") (by decide +kernel)) rfl (v := .ref (g + 1)) rfl dX7_answersOneByOne_24 ?_
            refine lv_iload_n hx hb dX7_answersOneByOne_27 rfl (lv_at hl 0 rfl) ?_
            refine m_ld1 (i := i) hx hb hK hR (by omega) dX7_answersOneByOne_28 ?_
            refine x_top (y := (bI (mAl (sE M) i))) (hE.1 i (by omega)) ?_
            refine y_bif_eq hx hb (tgt := 50) dX7_answersOneByOne_29 (by decide) (fun c29 => ?_) (fun c29 => ?_)
            · refine lv_iconst (v := nI 0) hx hb dX7_answersOneByOne_50 (by decide) ?_
              refine y_iadd hx hb dX7_answersOneByOne_51 ?_
              refine x_top (y := (nI (cnt (fun k => mAl (sE M) k && ansQ (sQ M) j1 (mKd (sE M) k)) (i + 1)))) (by rw [cnt_f (f := (fun k => mAl (sE M) k && ansQ (sQ M) j1 (mKd (sE M) k))) (by show (mAl (sE M) i && ansQ (sQ M) j1 (mKd (sE M) i)) = false; rw [c29]; rfl)]; rfl) ?_
              refine lv_istore_n (lv' := [(2, .int (nI (cnt (fun k => mAl (sE M) k && ansQ (sQ M) j1 (mKd (sE M) k)) (i + 1)))), (3, .int (nI i)), (0, .ref g), (1, .int (nI j1))]) hx hb dX7_answersOneByOne_52 rfl hl (by decide) rfl (fun ls hl => ?_)
              refine lv_iinc (v := (nI (i + 1))) (lv' := [(3, .int (nI (i + 1))), (2, .int (nI (cnt (fun k => mAl (sE M) k && ansQ (sQ M) j1 (mKd (sE M) k)) (i + 1)))), (0, .ref g), (1, .int (nI j1))]) hx hb dX7_answersOneByOne_53 hl (k := 1) rfl (nI_inc _) (by decide) rfl (fun ls hl => ?_)
              refine lv_goto (tgt := 4) hx hb dX7_answersOneByOne_56 (by decide) ?_
              exact ih4 (i + 1) (upd S9 0 (nI 0)) H2 locs2 (by omega) (by omega) (fun j h => by show upd S9 0 (nI 0) j = _; rw [show upd S9 0 (nI 0) j = S9 j from if_neg h]; exact hS9 j h) hR hS ls (lv_sub hl [0, 1, 2, 3] rfl)
            · refine lv_aload_n hx hb dX7_answersOneByOne_32 rfl (lv_at hl 2 rfl) ?_
              refine lv_iload_n hx hb dX7_answersOneByOne_33 rfl (lv_at hl 3 rfl) ?_
              refine lv_aload_n hx hb dX7_answersOneByOne_34 rfl (lv_at hl 2 rfl) ?_
              refine m_get hx hb hts in_X7_answersOneByOne_RX7 hown hK hR 4 (by decide) (hts (.fieldLink RX7 17 "ArcheloftModel" "kinds" "[I") (by decide +kernel)) rfl (v := .ref (g + 3)) rfl dX7_answersOneByOne_35 ?_
              refine lv_iload_n hx hb dX7_answersOneByOne_38 rfl (lv_at hl 0 rfl) ?_
              refine m_ld3 (i := i) hx hb hK hR (by omega) dX7_answersOneByOne_39 ?_
              refine x_top (y := (nI (mKd (sE M) i))) (hE.2.2.1 i (by omega) c29) ?_
              refine k_ip (k_V (As := [.int (nI j1), .int (nI (mKd (sE M) i))]) (rest := [.int (nI (cnt (fun k => mAl (sE M) k && ansQ (sQ M) j1 (mKd (sE M) k)) i))]) ⟨hx, hb, hml, hown, hts⟩ hev hS (c_X7_answersBy l hR (Nat.lt_of_lt_of_le hj1 iQ.1) ((hQ9.cong rfl (fun _ _ _ => rfl)).2 j1 hj1).1 ((hQ9.cong rfl (fun _ _ _ => rfl)).2 j1 hj1).2.1 ((hQ9.cong rfl (fun _ _ _ => rfl)).2 j1 hj1).2.2 (iQ.2 j1 hj1).1 (iQ.2 j1 hj1).2.1 (iQ.2 j1 hj1).2.2 (iE.1 i)) (cwV 2 hts gX7_answersOneByOne_X7_answersBy rfl rfl rfl (by decide +kernel) ⟨Nat.le_of_ble_eq_true rfl, Nat.le_of_ble_eq_true rfl⟩) (x_recv hK hR.1 rfl) rfl hl.1 (Nat.le_of_ble_eq_true rfl) dX7_answersOneByOne_40 (Nat.le_of_ble_eq_true rfl) (Nat.le_of_ble_eq_true rfl)) hS hnt hlk (fun _ _ h _ => h.elim) (Nat.le_of_ble_eq_true rfl) (Nat.le_of_ble_eq_true rfl) (fun rq3_ H3 locs3 hP hz3 hS => ?_)
              refine W.widen (k := 0) (n := 0) (Nat.le_refl _) (Nat.le_refl _) ?_
              have hR : RM D T g (upd S9 0 (nI 0)) Y H3 := by rw [hP.1]; exact hR
              have era := hP.2
              refine x_top (y := (bI (ansQ (sQ M) j1 (mKd (sE M) i)))) (era) ?_
              refine y_bif_eq hx hb (tgt := 50) dX7_answersOneByOne_43 (by decide) (fun c43 => ?_) (fun c43 => ?_)
              · refine lv_iconst (v := nI 0) hx hb dX7_answersOneByOne_50 (by decide) ?_
                refine y_iadd hx hb dX7_answersOneByOne_51 ?_
                refine x_top (y := (nI (cnt (fun k => mAl (sE M) k && ansQ (sQ M) j1 (mKd (sE M) k)) (i + 1)))) (by rw [cnt_f (f := (fun k => mAl (sE M) k && ansQ (sQ M) j1 (mKd (sE M) k))) (by show (mAl (sE M) i && ansQ (sQ M) j1 (mKd (sE M) i)) = false; rw [c29, c43]; rfl)]; rfl) ?_
                refine lv_istore_n (lv' := [(2, .int (nI (cnt (fun k => mAl (sE M) k && ansQ (sQ M) j1 (mKd (sE M) k)) (i + 1)))), (3, .int (nI i)), (0, .ref g), (1, .int (nI j1))]) hx hb dX7_answersOneByOne_52 rfl hl (by decide) rfl (fun ls hl => ?_)
                refine lv_iinc (v := (nI (i + 1))) (lv' := [(3, .int (nI (i + 1))), (2, .int (nI (cnt (fun k => mAl (sE M) k && ansQ (sQ M) j1 (mKd (sE M) k)) (i + 1)))), (0, .ref g), (1, .int (nI j1))]) hx hb dX7_answersOneByOne_53 hl (k := 1) rfl (nI_inc _) (by decide) rfl (fun ls hl => ?_)
                refine lv_goto (tgt := 4) hx hb dX7_answersOneByOne_56 (by decide) ?_
                exact ih4 (i + 1) (upd S9 0 (nI 0)) H3 locs3 (by omega) (by omega) (fun j h => by show upd S9 0 (nI 0) j = _; rw [show upd S9 0 (nI 0) j = S9 j from if_neg h]; exact hS9 j h) hR hS ls (lv_sub hl [0, 1, 2, 3] rfl)
              · refine lv_iconst (v := nI 1) hx hb dX7_answersOneByOne_46 (by decide) ?_
                refine lv_goto (tgt := 51) hx hb dX7_answersOneByOne_47 (by decide) ?_
                refine y_iadd hx hb dX7_answersOneByOne_51 ?_
                refine x_top (y := (nI (cnt (fun k => mAl (sE M) k && ansQ (sQ M) j1 (mKd (sE M) k)) (i + 1)))) (by rw [cnt_t (f := (fun k => mAl (sE M) k && ansQ (sQ M) j1 (mKd (sE M) k))) (by show (mAl (sE M) i && ansQ (sQ M) j1 (mKd (sE M) i)) = true; rw [c29, c43]; rfl)]) ?_
                refine lv_istore_n (lv' := [(2, .int (nI (cnt (fun k => mAl (sE M) k && ansQ (sQ M) j1 (mKd (sE M) k)) (i + 1)))), (3, .int (nI i)), (0, .ref g), (1, .int (nI j1))]) hx hb dX7_answersOneByOne_52 rfl hl (by decide) rfl (fun ls hl => ?_)
                refine lv_iinc (v := (nI (i + 1))) (lv' := [(3, .int (nI (i + 1))), (2, .int (nI (cnt (fun k => mAl (sE M) k && ansQ (sQ M) j1 (mKd (sE M) k)) (i + 1)))), (0, .ref g), (1, .int (nI j1))]) hx hb dX7_answersOneByOne_53 hl (k := 1) rfl (nI_inc _) (by decide) rfl (fun ls hl => ?_)
                refine lv_goto (tgt := 4) hx hb dX7_answersOneByOne_56 (by decide) ?_
                exact ih4 (i + 1) (upd S9 0 (nI 0)) H3 locs3 (by omega) (by omega) (fun j h => by show upd S9 0 (nI 0) j = _; rw [show upd S9 0 (nI 0) j = S9 j from if_neg h]; exact hS9 j h) hR hS ls (lv_sub hl [0, 1, 2, 3] rfl)
    exact loop4 ((32 - 0) + 1) 0 S H [] (Nat.lt_succ_self _) (Nat.zero_le _) (fun _ _ => rfl) hR hS ls (lv_sub hl [0, 1, 2, 3] rfl)
set_option maxRecDepth 100000 in
theorem in_X7_answeringRows_RX7 : ∀ w ∈ wsX70, w ∈ wsX7_answeringRows := by decide +kernel
set_option maxHeartbeats 4000000 in
set_option maxRecDepth 100000 in
theorem c_X7_answeringRows (l : Launch) {D : va_G} {T : Nat → ClassId} {dE mi : Nat} {g : Nat} {S : Nat → Int32} {Y : Nat → Nat → Int32} {H : Heap} (hR : RM D T g S Y H) {M : mSt} (hM : Rel S Y M) {b : Nat} (hI : Inv b M) (x : Int32) : vx_Met l yX7_answeringRows wsX7_answeringRows (rmL 1 0 0) (PcE D T dE mi (AM g) H [.ref g, .int x]) (QI (AM g) (fun r H1 => PM D T g (oAnsRows M x) r H1)) (XX (AM g) (XN)) 0 0 (AM g) := by
  refine entry (cc := cX7_answeringRows) (maxL := 4) (ret := (some .int)) (by decide) rfl (Nat.le_of_ble_eq_true rfl) ?_
  intro p e s m args below meth c hx hb hrt9 hml hown hts hlk hnt hnm hev hS ls hl
  have hown : s.vm.findClass RX7 = some m.cls := hown
  have hK := hev.1
  have hl : lv_has ls 4 [(0, .ref g), (1, .int x)] := hl
  obtain ⟨hT, hE, hRw, hQ, hW, hY⟩ := id hM
  obtain ⟨iE, iR, iQ, iW, iY, hb9, hh⟩ := id hI
  have hb0 : b ≤ 1000000 := Nat.le_trans hb9 (by decide)
  have okk := iR.ok iE
  have h64 := okk.le
  have hq8 : (sQ M).1 < 2 ^ 31 := Nat.lt_of_le_of_lt iQ.1 (by decide)
  cases hin : inB x (sQ M).1
  · have ho : oAnsRows M x = oErr M 1 := if_neg (by rw [hin]; decide)
    refine lv_iconst (v := nI 0) hx hb dX7_answeringRows_0 (by decide) ?_
    refine lv_istore_n (lv' := [(2, .int (nI 0)), (0, .ref g), (1, .int x)]) hx hb dX7_answeringRows_1 rfl hl (by decide) rfl (fun ls hl => ?_)
    refine lv_iconst (v := nI 0) hx hb dX7_answeringRows_2 (by decide) ?_
    refine lv_istore_n (lv' := [(3, .int (nI 0)), (2, .int (nI 0)), (0, .ref g), (1, .int x)]) hx hb dX7_answeringRows_3 rfl hl (by decide) rfl (fun ls hl => ?_)
    refine lv_aload_n hx hb dX7_answeringRows_4 rfl (lv_at hl 2 rfl) ?_
    refine lv_iload_n hx hb dX7_answeringRows_5 rfl (lv_at hl 3 rfl) ?_
    refine lv_aload_n hx hb dX7_answeringRows_6 rfl (lv_at hl 2 rfl) ?_
    refine m_get hx hb hts in_X7_answeringRows_RX7 hown hK hR 16 (by decide) (hts (.fieldLink RX7 147 "ArcheloftModel" "questions" "I") (by decide +kernel)) rfl (v := .int (S 16)) rfl dX7_answeringRows_7 ?_
    refine x_top (y := (nI ((sQ M).1))) (hQ.1) ?_
    refine k_ip (k_V (As := [.int x, .int (nI ((sQ M).1))]) (rest := []) ⟨hx, hb, hml, hown, hts⟩ hev hS (c_X7_isIn l hR (x)) (cwV 2 hts gX7_answeringRows_X7_isIn rfl rfl rfl (by decide +kernel) ⟨Nat.le_of_ble_eq_true rfl, Nat.le_of_ble_eq_true rfl⟩) (x_recv hK hR.1 rfl) rfl hl.1 (Nat.le_of_ble_eq_true rfl) dX7_answeringRows_10 (Nat.le_of_ble_eq_true rfl) (Nat.le_of_ble_eq_true rfl)) hS hnt hlk (fun _ _ h _ => h.elim) (Nat.le_of_ble_eq_true rfl) (Nat.le_of_ble_eq_true rfl) (fun rq1_ H1 locs1 hP hz1 hS => ?_)
    refine W.widen (k := 0) (n := 0) (Nat.le_refl _) (Nat.le_refl _) ?_
    obtain ⟨bq_, hbq_, erbq_, hR⟩ := hP
    rw [hin] at hbq_
    subst hbq_
    have hR : RM D T g (upd S 0 (nI 1)) Y H1 := hR
    refine x_top (y := (bI false)) (erbq_) ?_
    refine y_bif_eq hx hb (tgt := 52) dX7_answeringRows_13 (by decide) (fun c13 => ?_) (fun c13 => ?_)
    · refine lv_iload_n hx hb dX7_answeringRows_52 rfl (lv_at hl 1 rfl) ?_
      exact r_i hx hb hrt9 hlk hS (Nat.le_of_ble_eq_true rfl) (Nat.le_of_ble_eq_true rfl) dX7_answeringRows_53 (by rw [ho]; exact PM.err (by decide) hR hM rfl)
    · exact absurd c13 (by decide)
  · obtain ⟨j1, hj1, rfl⟩ := inB_of hq8 hin
    have hl : lv_has ls 4 [(0, .ref g), (1, .int (nI j1))] := hl
    have hix := ix_nI (k := j1) (by omega)
    have ho : oAnsRows M (nI j1) = oRet M (nI (cnt (fun r => ansQ (sQ M) j1 (rS (sR M) r)) (rN (sR M)))) := by unfold oAnsRows; rw [hix]; exact if_pos hin
    refine lv_iconst (v := nI 0) hx hb dX7_answeringRows_0 (by decide) ?_
    refine lv_istore_n (lv' := [(2, .int (nI 0)), (0, .ref g), (1, .int (nI j1))]) hx hb dX7_answeringRows_1 rfl hl (by decide) rfl (fun ls hl => ?_)
    refine lv_iconst (v := nI 0) hx hb dX7_answeringRows_2 (by decide) ?_
    refine lv_istore_n (lv' := [(3, .int (nI 0)), (2, .int (nI 0)), (0, .ref g), (1, .int (nI j1))]) hx hb dX7_answeringRows_3 rfl hl (by decide) rfl (fun ls hl => ?_)
    have loop4 : ∀ (n : Nat) (i : Nat) (S9 : Nat → Int32) (H9 : Heap) (locs9 : List Loc), rN (sR M) - i < n → (i ≤ rN (sR M)) → (∀ j, j ≠ 0 → S9 j = S j) → (RM D T g S9 Y H9) → (va_S (AM g) s.heap H9 locs9) → ∀ (ls : Array Slot), lv_has ls 4 [(3, .int (nI i)), (2, .int (nI (cnt (fun r => ansQ (sQ M) j1 (rS (sR M) r)) i))), (0, .ref g), (1, .int (nI j1))] → W p l e (rmL 1 0 0) s m args below meth c H9 locs9 (0) (0) (vx_MQ below (QI (AM g) (fun r H1 => PM D T g (oAnsRows M (nI j1)) r H1)) (XX (AM g) (XN)) args s 0 0 (AM g)) (F0 m 4 ls []) := by
      intro n
      induction n with
      | zero => intro i S9 H9 locs9 hfuel; exact absurd hfuel (Nat.not_lt_zero _)
      | succ n ih4 =>
        intro i S9 H9 locs9 hfuel hi hS9 hR hS ls hl
        have hM9 := hM.cong0 hS9
        have hQ9 := hM9.2.2.2.1
        have hRw9 := hM9.2.2.1
        refine lv_aload_n hx hb dX7_answeringRows_4 rfl (lv_at hl 2 rfl) ?_
        refine lv_iload_n hx hb dX7_answeringRows_5 rfl (lv_at hl 3 rfl) ?_
        refine lv_aload_n hx hb dX7_answeringRows_6 rfl (lv_at hl 2 rfl) ?_
        refine m_get hx hb hts in_X7_answeringRows_RX7 hown hK hR 16 (by decide) (hts (.fieldLink RX7 147 "ArcheloftModel" "questions" "I") (by decide +kernel)) rfl (v := .int (S9 16)) rfl dX7_answeringRows_7 ?_
        refine x_top (y := (nI ((sQ M).1))) (hQ9.1) ?_
        refine k_ip (k_V (As := [.int (nI j1), .int (nI ((sQ M).1))]) (rest := []) ⟨hx, hb, hml, hown, hts⟩ hev hS (c_X7_isIn l hR (nI j1)) (cwV 2 hts gX7_answeringRows_X7_isIn rfl rfl rfl (by decide +kernel) ⟨Nat.le_of_ble_eq_true rfl, Nat.le_of_ble_eq_true rfl⟩) (x_recv hK hR.1 rfl) rfl hl.1 (Nat.le_of_ble_eq_true rfl) dX7_answeringRows_10 (Nat.le_of_ble_eq_true rfl) (Nat.le_of_ble_eq_true rfl)) hS hnt hlk (fun _ _ h _ => h.elim) (Nat.le_of_ble_eq_true rfl) (Nat.le_of_ble_eq_true rfl) (fun rq2_ H2 locs2 hP hz2 hS => ?_)
        refine W.widen (k := 0) (n := 0) (Nat.le_refl _) (Nat.le_refl _) ?_
        obtain ⟨bq_, hbq_, erbq_, hR⟩ := hP
        rw [hin] at hbq_
        subst hbq_
        have hR : RM D T g (upd S9 0 (nI 0)) Y H2 := hR
        refine x_top (y := (bI true)) (erbq_) ?_
        refine y_bif_eq hx hb (tgt := 52) dX7_answeringRows_13 (by decide) (fun c13 => ?_) (fun c13 => ?_)
        · exact absurd c13 (by decide)
        · refine lv_iload_n hx hb dX7_answeringRows_16 rfl (lv_at hl 0 rfl) ?_
          refine lv_aload_n hx hb dX7_answeringRows_17 rfl (lv_at hl 2 rfl) ?_
          refine m_get hx hb hts in_X7_answeringRows_RX7 hown hK hR 12 (by decide) (hts (.fieldLink RX7 81 "ArcheloftModel" "rows" "I") (by decide +kernel)) rfl (v := .int (S9 12)) rfl dX7_answeringRows_18 ?_
          refine x_top (y := (nI (rN (sR M)))) (hRw9.1) ?_
          refine y_icmp_ge hx hb (by omega) (by omega) (tgt := 52) dX7_answeringRows_21 (by decide) (fun c21 => ?_) (fun c21 => ?_)
          · refine lv_iload_n hx hb dX7_answeringRows_52 rfl (lv_at hl 1 rfl) ?_
            exact r_i hx hb hrt9 hlk hS (Nat.le_of_ble_eq_true rfl) (Nat.le_of_ble_eq_true rfl) dX7_answeringRows_53 (by rw [ho]; exact PM.ret hR hM9 rfl (by rw [show i = rN (sR M) by omega]))
          · refine lv_iload_n hx hb dX7_answeringRows_24 rfl (lv_at hl 1 rfl) ?_
            refine lv_aload_n hx hb dX7_answeringRows_25 rfl (lv_at hl 2 rfl) ?_
            refine lv_iload_n hx hb dX7_answeringRows_26 rfl (lv_at hl 3 rfl) ?_
            refine lv_aload_n hx hb dX7_answeringRows_27 rfl (lv_at hl 2 rfl) ?_
            refine m_get hx hb hts in_X7_answeringRows_RX7 hown hK hR 9 (by decide) (hts (.fieldLink RX7 32 "ArcheloftModel" "setOf" "[I") (by decide +kernel)) rfl (v := .ref (g + 8)) rfl dX7_answeringRows_28 ?_
            refine lv_iload_n hx hb dX7_answeringRows_31 rfl (lv_at hl 0 rfl) ?_
            refine m_ld8 (i := i) hx hb hK hR (by omega) dX7_answeringRows_32 ?_
            refine x_top (y := (nI (rS (sR M) i))) (hRw9.2.2.1 i (by omega)) ?_
            refine k_ip (k_V (As := [.int (nI j1), .int (nI (rS (sR M) i))]) (rest := [.int (nI (cnt (fun r => ansQ (sQ M) j1 (rS (sR M) r)) i))]) ⟨hx, hb, hml, hown, hts⟩ hev hS (c_X7_answersBy l hR (Nat.lt_of_lt_of_le hj1 iQ.1) ((hQ9.cong rfl (fun _ _ _ => rfl)).2 j1 hj1).1 ((hQ9.cong rfl (fun _ _ _ => rfl)).2 j1 hj1).2.1 ((hQ9.cong rfl (fun _ _ _ => rfl)).2 j1 hj1).2.2 (iQ.2 j1 hj1).1 (iQ.2 j1 hj1).2.1 (iQ.2 j1 hj1).2.2 (okk.1 i (by omega))) (cwV 2 hts gX7_answeringRows_X7_answersBy rfl rfl rfl (by decide +kernel) ⟨Nat.le_of_ble_eq_true rfl, Nat.le_of_ble_eq_true rfl⟩) (x_recv hK hR.1 rfl) rfl hl.1 (Nat.le_of_ble_eq_true rfl) dX7_answeringRows_33 (Nat.le_of_ble_eq_true rfl) (Nat.le_of_ble_eq_true rfl)) hS hnt hlk (fun _ _ h _ => h.elim) (Nat.le_of_ble_eq_true rfl) (Nat.le_of_ble_eq_true rfl) (fun rq3_ H3 locs3 hP hz3 hS => ?_)
            refine W.widen (k := 0) (n := 0) (Nat.le_refl _) (Nat.le_refl _) ?_
            have hR : RM D T g (upd S9 0 (nI 0)) Y H3 := by rw [hP.1]; exact hR
            have era := hP.2
            refine x_top (y := (bI (ansQ (sQ M) j1 (rS (sR M) i)))) (era) ?_
            refine y_bif_eq hx hb (tgt := 43) dX7_answeringRows_36 (by decide) (fun c36 => ?_) (fun c36 => ?_)
            · refine lv_iconst (v := nI 0) hx hb dX7_answeringRows_43 (by decide) ?_
              refine y_iadd hx hb dX7_answeringRows_44 ?_
              refine x_top (y := (nI (cnt (fun r => ansQ (sQ M) j1 (rS (sR M) r)) (i + 1)))) (by rw [cnt_f (f := (fun r => ansQ (sQ M) j1 (rS (sR M) r))) c36]; rfl) ?_
              refine lv_istore_n (lv' := [(2, .int (nI (cnt (fun r => ansQ (sQ M) j1 (rS (sR M) r)) (i + 1)))), (3, .int (nI i)), (0, .ref g), (1, .int (nI j1))]) hx hb dX7_answeringRows_45 rfl hl (by decide) rfl (fun ls hl => ?_)
              refine lv_iinc (v := (nI (i + 1))) (lv' := [(3, .int (nI (i + 1))), (2, .int (nI (cnt (fun r => ansQ (sQ M) j1 (rS (sR M) r)) (i + 1)))), (0, .ref g), (1, .int (nI j1))]) hx hb dX7_answeringRows_46 hl (k := 1) rfl (nI_inc _) (by decide) rfl (fun ls hl => ?_)
              refine lv_goto (tgt := 4) hx hb dX7_answeringRows_49 (by decide) ?_
              exact ih4 (i + 1) (upd S9 0 (nI 0)) H3 locs3 (by omega) (by omega) (fun j h => by show upd S9 0 (nI 0) j = _; rw [show upd S9 0 (nI 0) j = S9 j from if_neg h]; exact hS9 j h) hR hS ls (lv_sub hl [0, 1, 2, 3] rfl)
            · refine lv_iconst (v := nI 1) hx hb dX7_answeringRows_39 (by decide) ?_
              refine lv_goto (tgt := 44) hx hb dX7_answeringRows_40 (by decide) ?_
              refine y_iadd hx hb dX7_answeringRows_44 ?_
              refine x_top (y := (nI (cnt (fun r => ansQ (sQ M) j1 (rS (sR M) r)) (i + 1)))) (by rw [cnt_t (f := (fun r => ansQ (sQ M) j1 (rS (sR M) r))) c36]) ?_
              refine lv_istore_n (lv' := [(2, .int (nI (cnt (fun r => ansQ (sQ M) j1 (rS (sR M) r)) (i + 1)))), (3, .int (nI i)), (0, .ref g), (1, .int (nI j1))]) hx hb dX7_answeringRows_45 rfl hl (by decide) rfl (fun ls hl => ?_)
              refine lv_iinc (v := (nI (i + 1))) (lv' := [(3, .int (nI (i + 1))), (2, .int (nI (cnt (fun r => ansQ (sQ M) j1 (rS (sR M) r)) (i + 1)))), (0, .ref g), (1, .int (nI j1))]) hx hb dX7_answeringRows_46 hl (k := 1) rfl (nI_inc _) (by decide) rfl (fun ls hl => ?_)
              refine lv_goto (tgt := 4) hx hb dX7_answeringRows_49 (by decide) ?_
              exact ih4 (i + 1) (upd S9 0 (nI 0)) H3 locs3 (by omega) (by omega) (fun j h => by show upd S9 0 (nI 0) j = _; rw [show upd S9 0 (nI 0) j = S9 j from if_neg h]; exact hS9 j h) hR hS ls (lv_sub hl [0, 1, 2, 3] rfl)
    exact loop4 ((rN (sR M) - 0) + 1) 0 S H [] (Nat.lt_succ_self _) (Nat.zero_le _) (fun _ _ => rfl) hR hS ls (lv_sub hl [0, 1, 2, 3] rfl)
set_option maxRecDepth 100000 in
theorem in_X7_question_RX7 : ∀ w ∈ wsX70, w ∈ wsX7_question := by decide +kernel
set_option maxHeartbeats 4000000 in
set_option maxRecDepth 100000 in
theorem c_X7_question (l : Launch) {D : va_G} {T : Nat → ClassId} {dE mi : Nat} {g : Nat} {S : Nat → Int32} {Y : Nat → Nat → Int32} {H : Heap} (hR : RM D T g S Y H) {M : mSt} (hM : Rel S Y M) {b : Nat} (hI : Inv b M) (x y z : Int32) : vx_Met l yX7_question wsX7_question (rmL 1 0 0) (PcE D T dE mi (AM g) H [.ref g, .int x, .int y, .int z]) (QI (AM g) (fun r H1 => PM D T g (oQuestion M x y z) r H1)) (XX (AM g) (XN)) 0 0 (AM g) := by
  refine entry (cc := cX7_question) (maxL := 4) (ret := (some .int)) (by decide) rfl (Nat.le_of_ble_eq_true rfl) ?_
  intro p e s m args below meth c hx hb hrt9 hml hown hts hlk hnt hnm hev hS ls hl
  have hown : s.vm.findClass RX7 = some m.cls := hown
  have hK := hev.1
  have hl : lv_has ls 4 [(0, .ref g), (1, .int x), (2, .int y), (3, .int z)] := hl
  obtain ⟨hT, hE, hRw, hQ, hW, hY⟩ := id hM
  obtain ⟨iE, iR, iQ, iW, iY, hb9, hh⟩ := id hI
  have hb0 : b ≤ 1000000 := Nat.le_trans hb9 (by decide)
  have okk := iR.ok iE
  have h64 := okk.le
  have hq8 : (sQ M).1 < 2 ^ 31 := Nat.lt_of_le_of_lt iQ.1 (by decide)
  refine lv_aload_n hx hb dX7_question_0 rfl (lv_at hl 0 rfl) ?_
  refine lv_iload_n hx hb dX7_question_1 rfl (lv_at hl 1 rfl) ?_
  refine k_ip (k_S (As := [.int x]) (rest := [.ref g]) ⟨hx, hb, hml, hown, hts⟩ hev hS (c_X7_isSet l (A := AM g) (H := H) (x)) (va_cwS 1 hts gX7_question_X7_isSet rfl rfl rfl (by decide +kernel) ⟨Nat.le_of_ble_eq_true rfl, Nat.le_of_ble_eq_true rfl⟩) rfl hl.1 (Nat.le_of_ble_eq_true rfl) dX7_question_2 (Nat.le_of_ble_eq_true rfl) (Nat.le_of_ble_eq_true rfl)) hS hnt hlk (fun _ _ h _ => h.elim) (Nat.le_of_ble_eq_true rfl) (Nat.le_of_ble_eq_true rfl) (fun rq1_ H1 locs1 hP hz1 hS => ?_)
  refine W.widen (k := 0) (n := 0) (Nat.le_refl _) (Nat.le_refl _) ?_
  have hR : RM D T g S Y H1 := by rw [hP.1]; exact hR
  have er1 := hP.2
  refine x_top (y := (bI (isS x))) (er1) ?_
  refine y_bif_eq hx hb (tgt := 22) dX7_question_5 (by decide) (fun c5 => ?_) (fun c5 => ?_)
  · have ho : oQuestion M x y z = oErr M 1 := if_pos (Or.inl c5)
    refine lv_iconst (v := nI 1) hx hb dX7_question_22 (by decide) ?_
    refine lv_goto (tgt := 40) hx hb dX7_question_23 (by decide) ?_
    refine m_put0 (v := (nI 1)) hx hb hts in_X7_question_RX7 hown hK hS hR (hts (.fieldLink RX7 77 "ArcheloftModel" "thrown" "I") (by decide +kernel)) dX7_question_40 (fun H2 locs2 hR hS => ?_)
    refine lv_aload_n hx hb dX7_question_43 rfl (lv_at hl 0 rfl) ?_
    refine m_get hx hb hts in_X7_question_RX7 hown hK hR 0 (by decide) (hts (.fieldLink RX7 77 "ArcheloftModel" "thrown" "I") (by decide +kernel)) rfl (v := .int (nI 1)) rfl dX7_question_44 ?_
    refine y_if_le hx hb (by decide) (tgt := 52) dX7_question_47 (by decide) (fun c47 => ?_) (fun c47 => ?_)
    · exact absurd c47 (by decide)
    · refine lv_iconst (v := nI 0) hx hb dX7_question_50 (by decide) ?_
      exact r_i hx hb hrt9 hlk hS (Nat.le_of_ble_eq_true rfl) (Nat.le_of_ble_eq_true rfl) dX7_question_51 (by rw [ho]; exact PM.err (by decide) hR hM rfl)
  · refine lv_iload_n hx hb dX7_question_8 rfl (lv_at hl 2 rfl) ?_
    refine k_ip (k_S (As := [.int y]) (rest := [.ref g]) ⟨hx, hb, hml, hown, hts⟩ hev hS (c_X7_isSet l (A := AM g) (H := H1) (y)) (va_cwS 1 hts gX7_question_X7_isSet rfl rfl rfl (by decide +kernel) ⟨Nat.le_of_ble_eq_true rfl, Nat.le_of_ble_eq_true rfl⟩) rfl hl.1 (Nat.le_of_ble_eq_true rfl) dX7_question_9 (Nat.le_of_ble_eq_true rfl) (Nat.le_of_ble_eq_true rfl)) hS hnt hlk (fun _ _ h _ => h.elim) (Nat.le_of_ble_eq_true rfl) (Nat.le_of_ble_eq_true rfl) (fun rq3_ H3 locs3 hP hz3 hS => ?_)
    refine W.widen (k := 0) (n := 0) (Nat.le_refl _) (Nat.le_refl _) ?_
    have hR : RM D T g S Y H3 := by rw [hP.1]; exact hR
    have er2 := hP.2
    refine x_top (y := (bI (isS y))) (er2) ?_
    refine y_bif_eq hx hb (tgt := 22) dX7_question_12 (by decide) (fun c12 => ?_) (fun c12 => ?_)
    · have ho : oQuestion M x y z = oErr M 1 := if_pos (Or.inr (Or.inl c12))
      refine lv_iconst (v := nI 1) hx hb dX7_question_22 (by decide) ?_
      refine lv_goto (tgt := 40) hx hb dX7_question_23 (by decide) ?_
      refine m_put0 (v := (nI 1)) hx hb hts in_X7_question_RX7 hown hK hS hR (hts (.fieldLink RX7 77 "ArcheloftModel" "thrown" "I") (by decide +kernel)) dX7_question_40 (fun H4 locs4 hR hS => ?_)
      refine lv_aload_n hx hb dX7_question_43 rfl (lv_at hl 0 rfl) ?_
      refine m_get hx hb hts in_X7_question_RX7 hown hK hR 0 (by decide) (hts (.fieldLink RX7 77 "ArcheloftModel" "thrown" "I") (by decide +kernel)) rfl (v := .int (nI 1)) rfl dX7_question_44 ?_
      refine y_if_le hx hb (by decide) (tgt := 52) dX7_question_47 (by decide) (fun c47 => ?_) (fun c47 => ?_)
      · exact absurd c47 (by decide)
      · refine lv_iconst (v := nI 0) hx hb dX7_question_50 (by decide) ?_
        exact r_i hx hb hrt9 hlk hS (Nat.le_of_ble_eq_true rfl) (Nat.le_of_ble_eq_true rfl) dX7_question_51 (by rw [ho]; exact PM.err (by decide) hR hM rfl)
    · refine lv_iload_n hx hb dX7_question_15 rfl (lv_at hl 3 rfl) ?_
      refine k_ip (k_S (As := [.int z]) (rest := [.ref g]) ⟨hx, hb, hml, hown, hts⟩ hev hS (c_X7_isSet l (A := AM g) (H := H3) (z)) (va_cwS 1 hts gX7_question_X7_isSet rfl rfl rfl (by decide +kernel) ⟨Nat.le_of_ble_eq_true rfl, Nat.le_of_ble_eq_true rfl⟩) rfl hl.1 (Nat.le_of_ble_eq_true rfl) dX7_question_16 (Nat.le_of_ble_eq_true rfl) (Nat.le_of_ble_eq_true rfl)) hS hnt hlk (fun _ _ h _ => h.elim) (Nat.le_of_ble_eq_true rfl) (Nat.le_of_ble_eq_true rfl) (fun rq5_ H5 locs5 hP hz5 hS => ?_)
      refine W.widen (k := 0) (n := 0) (Nat.le_refl _) (Nat.le_refl _) ?_
      have hR : RM D T g S Y H5 := by rw [hP.1]; exact hR
      have er3 := hP.2
      refine x_top (y := (bI (isS z))) (er3) ?_
      refine y_bif_ne hx hb (tgt := 26) dX7_question_19 (by decide) (fun c19 => ?_) (fun c19 => ?_)
      · have hno : ¬ (isS x = false ∨ isS y = false ∨ isS z = false) := fun w => by rcases w with w | w | w <;> simp_all
        refine lv_aload_n hx hb dX7_question_26 rfl (lv_at hl 0 rfl) ?_
        refine m_get hx hb hts in_X7_question_RX7 hown hK hR 16 (by decide) (hts (.fieldLink RX7 147 "ArcheloftModel" "questions" "I") (by decide +kernel)) rfl (v := .int (S 16)) rfl dX7_question_27 ?_
        refine x_top (y := (nI ((sQ M).1))) (hQ.1) ?_
        refine lv_bipush (v := nI 8) hx hb dX7_question_30 (by decide) ?_
        refine y_icmp_ne hx hb (by omega) (Nat.le_of_ble_eq_true rfl) (tgt := 39) dX7_question_32 (by decide) (fun c32 => ?_) (fun c32 => ?_)
        · have ho : oQuestion M x y z = (0, nI (sQ M).1, wQ M ((sQ M).1 + 1, nu (sQ M).2.1 (sQ M).1 (ix x), nu (sQ M).2.2.1 (sQ M).1 (ix y), nu (sQ M).2.2.2 (sQ M).1 (ix z))) := (if_neg hno).trans (if_neg c32)
          have hq7 : (sQ M).1 < 8 := Nat.lt_of_le_of_ne iQ.1 c32
          obtain ⟨kx, hkx, rfl⟩ := isS_of c5
          obtain ⟨ky, hky, rfl⟩ := isS_of c12
          obtain ⟨kz, hkz, rfl⟩ := isS_of c19
          have hl : lv_has ls 4 [(0, .ref g), (1, .int (nI kx)), (2, .int (nI ky)), (3, .int (nI kz))] := hl
          refine lv_iconst (v := nI 0) hx hb dX7_question_39 (by decide) ?_
          refine m_put0 (v := (nI 0)) hx hb hts in_X7_question_RX7 hown hK hS hR (hts (.fieldLink RX7 77 "ArcheloftModel" "thrown" "I") (by decide +kernel)) dX7_question_40 (fun H6 locs6 hR hS => ?_)
          refine lv_aload_n hx hb dX7_question_43 rfl (lv_at hl 0 rfl) ?_
          refine m_get hx hb hts in_X7_question_RX7 hown hK hR 0 (by decide) (hts (.fieldLink RX7 77 "ArcheloftModel" "thrown" "I") (by decide +kernel)) rfl (v := .int (nI 0)) rfl dX7_question_44 ?_
          refine y_if_le hx hb (by decide) (tgt := 52) dX7_question_47 (by decide) (fun c47 => ?_) (fun c47 => ?_)
          · refine lv_aload_n hx hb dX7_question_52 rfl (lv_at hl 0 rfl) ?_
            refine m_get hx hb hts in_X7_question_RX7 hown hK hR 13 (by decide) (hts (.fieldLink RX7 41 "ArcheloftModel" "all" "[I") (by decide +kernel)) rfl (v := .ref (g + 11)) rfl dX7_question_53 ?_
            refine lv_aload_n hx hb dX7_question_56 rfl (lv_at hl 0 rfl) ?_
            refine m_get hx hb hts in_X7_question_RX7 hown hK hR 16 (by decide) (hts (.fieldLink RX7 147 "ArcheloftModel" "questions" "I") (by decide +kernel)) rfl (v := .int (S 16)) rfl dX7_question_57 ?_
            refine x_top (y := (nI ((sQ M).1))) (hQ.1) ?_
            refine lv_iload_n hx hb dX7_question_60 rfl (lv_at hl 1 rfl) ?_
            refine m_st11 (i := (sQ M).1) (v := (nI kx)) hx hb hK hS hR (by omega) dX7_question_61 (fun H7 locs7 hR hS => ?_)
            refine lv_aload_n hx hb dX7_question_62 rfl (lv_at hl 0 rfl) ?_
            refine m_get hx hb hts in_X7_question_RX7 hown hK hR 14 (by decide) (hts (.fieldLink RX7 44 "ArcheloftModel" "none" "[I") (by decide +kernel)) rfl (v := .ref (g + 12)) rfl dX7_question_63 ?_
            refine lv_aload_n hx hb dX7_question_66 rfl (lv_at hl 0 rfl) ?_
            refine m_get hx hb hts in_X7_question_RX7 hown hK hR 16 (by decide) (hts (.fieldLink RX7 147 "ArcheloftModel" "questions" "I") (by decide +kernel)) rfl (v := .int (S 16)) rfl dX7_question_67 ?_
            refine x_top (y := (nI ((sQ M).1))) (hQ.1) ?_
            refine lv_iload_n hx hb dX7_question_70 rfl (lv_at hl 2 rfl) ?_
            refine m_st12 (i := (sQ M).1) (v := (nI ky)) hx hb hK hS hR (by omega) dX7_question_71 (fun H8 locs8 hR hS => ?_)
            refine lv_aload_n hx hb dX7_question_72 rfl (lv_at hl 0 rfl) ?_
            refine m_get hx hb hts in_X7_question_RX7 hown hK hR 15 (by decide) (hts (.fieldLink RX7 47 "ArcheloftModel" "any" "[I") (by decide +kernel)) rfl (v := .ref (g + 13)) rfl dX7_question_73 ?_
            refine lv_aload_n hx hb dX7_question_76 rfl (lv_at hl 0 rfl) ?_
            refine m_get hx hb hts in_X7_question_RX7 hown hK hR 16 (by decide) (hts (.fieldLink RX7 147 "ArcheloftModel" "questions" "I") (by decide +kernel)) rfl (v := .int (S 16)) rfl dX7_question_77 ?_
            refine x_top (y := (nI ((sQ M).1))) (hQ.1) ?_
            refine lv_iload_n hx hb dX7_question_80 rfl (lv_at hl 3 rfl) ?_
            refine m_st13 (i := (sQ M).1) (v := (nI kz)) hx hb hK hS hR (by omega) dX7_question_81 (fun H9 locs9 hR hS => ?_)
            refine lv_aload_n hx hb dX7_question_82 rfl (lv_at hl 0 rfl) ?_
            refine lv_dup hx hb dX7_question_83 rfl ?_
            refine m_get hx hb hts in_X7_question_RX7 hown hK hR 16 (by decide) (hts (.fieldLink RX7 147 "ArcheloftModel" "questions" "I") (by decide +kernel)) rfl (v := .int (S 16)) rfl dX7_question_84 ?_
            refine x_top (y := (nI ((sQ M).1))) (hQ.1) ?_
            refine lv_iconst (v := nI 1) hx hb dX7_question_87 (by decide) ?_
            refine y_iadd hx hb dX7_question_88 ?_
            refine m_put16 (v := (nI (((sQ M).1) + 1))) hx hb hts in_X7_question_RX7 hown hK hS hR (hts (.fieldLink RX7 147 "ArcheloftModel" "questions" "I") (by decide +kernel)) dX7_question_89 (fun H10 locs10 hR hS => ?_)
            refine lv_aload_n hx hb dX7_question_92 rfl (lv_at hl 0 rfl) ?_
            refine m_get hx hb hts in_X7_question_RX7 hown hK hR 16 (by decide) (hts (.fieldLink RX7 147 "ArcheloftModel" "questions" "I") (by decide +kernel)) rfl (v := .int (nI (((sQ M).1) + 1))) rfl dX7_question_93 ?_
            refine lv_iconst (v := nI 1) hx hb dX7_question_96 (by decide) ?_
            refine y_isub hx hb (by omega) dX7_question_97 ?_
            exact r_i hx hb hrt9 hlk hS (Nat.le_of_ble_eq_true rfl) (Nat.le_of_ble_eq_true rfl) dX7_question_98 (by
                  rw [ho, ix_nI (by omega), ix_nI (by omega), ix_nI (by omega)]
                  refine PM.ok hR ⟨hT, hE, hRw.cong rfl (fun j h1 h2 => by simp only [up2]; rw [if_neg (by omega), if_neg (by omega), if_neg (by omega)]), ⟨rfl, fun i hi => ?_⟩, hW.cong (fun j h1 h2 => by simp only [upd]; rw [if_neg (by omega), if_neg (by omega)]) (fun j h1 h2 => by simp only [up2]; rw [if_neg (by omega), if_neg (by omega), if_neg (by omega)]) (fun _ _ _ => rfl), hY.cong rfl (fun j h1 h2 => by simp only [up2]; rw [if_neg (by omega), if_neg (by omega), if_neg (by omega)])⟩ rfl rfl
                  have hi : i < (sQ M).1 + 1 := hi
                  show (if i = (sQ M).1 then nI kx else Y 11 i) = nI (nu (sQ M).2.1 (sQ M).1 kx i) ∧ (if i = (sQ M).1 then nI ky else Y 12 i) = nI (nu (sQ M).2.2.1 (sQ M).1 ky i) ∧ (if i = (sQ M).1 then nI kz else Y 13 i) = nI (nu (sQ M).2.2.2 (sQ M).1 kz i)
                  by_cases ci : i = (sQ M).1
                  · rw [if_pos ci, if_pos ci, if_pos ci, ci, nu_s, nu_s, nu_s]; exact ⟨rfl, rfl, rfl⟩
                  · rw [if_neg ci, if_neg ci, if_neg ci, nu_n ci, nu_n ci, nu_n ci]; exact hQ.2 i (by omega))
          · exact absurd c47 (by decide)
        · have ho : oQuestion M x y z = oErr M 2 := (if_neg hno).trans (if_pos c32)
          refine lv_iconst (v := nI 2) hx hb dX7_question_35 (by decide) ?_
          refine lv_goto (tgt := 40) hx hb dX7_question_36 (by decide) ?_
          refine m_put0 (v := (nI 2)) hx hb hts in_X7_question_RX7 hown hK hS hR (hts (.fieldLink RX7 77 "ArcheloftModel" "thrown" "I") (by decide +kernel)) dX7_question_40 (fun H11 locs11 hR hS => ?_)
          refine lv_aload_n hx hb dX7_question_43 rfl (lv_at hl 0 rfl) ?_
          refine m_get hx hb hts in_X7_question_RX7 hown hK hR 0 (by decide) (hts (.fieldLink RX7 77 "ArcheloftModel" "thrown" "I") (by decide +kernel)) rfl (v := .int (nI 2)) rfl dX7_question_44 ?_
          refine y_if_le hx hb (by decide) (tgt := 52) dX7_question_47 (by decide) (fun c47 => ?_) (fun c47 => ?_)
          · exact absurd c47 (by decide)
          · refine lv_iconst (v := nI 0) hx hb dX7_question_50 (by decide) ?_
            exact r_i hx hb hrt9 hlk hS (Nat.le_of_ble_eq_true rfl) (Nat.le_of_ble_eq_true rfl) dX7_question_51 (by rw [ho]; exact PM.err (by decide) hR hM rfl)
      · have ho : oQuestion M x y z = oErr M 1 := if_pos (Or.inr (Or.inr c19))
        refine lv_iconst (v := nI 1) hx hb dX7_question_22 (by decide) ?_
        refine lv_goto (tgt := 40) hx hb dX7_question_23 (by decide) ?_
        refine m_put0 (v := (nI 1)) hx hb hts in_X7_question_RX7 hown hK hS hR (hts (.fieldLink RX7 77 "ArcheloftModel" "thrown" "I") (by decide +kernel)) dX7_question_40 (fun H12 locs12 hR hS => ?_)
        refine lv_aload_n hx hb dX7_question_43 rfl (lv_at hl 0 rfl) ?_
        refine m_get hx hb hts in_X7_question_RX7 hown hK hR 0 (by decide) (hts (.fieldLink RX7 77 "ArcheloftModel" "thrown" "I") (by decide +kernel)) rfl (v := .int (nI 1)) rfl dX7_question_44 ?_
        refine y_if_le hx hb (by decide) (tgt := 52) dX7_question_47 (by decide) (fun c47 => ?_) (fun c47 => ?_)
        · exact absurd c47 (by decide)
        · refine lv_iconst (v := nI 0) hx hb dX7_question_50 (by decide) ?_
          exact r_i hx hb hrt9 hlk hS (Nat.le_of_ble_eq_true rfl) (Nat.le_of_ble_eq_true rfl) dX7_question_51 (by rw [ho]; exact PM.err (by decide) hR hM rfl)
set_option maxRecDepth 100000 in
theorem in_X7_changed_RX7 : ∀ w ∈ wsX70, w ∈ wsX7_changed := by decide +kernel
set_option maxHeartbeats 4000000 in
set_option maxRecDepth 100000 in
theorem c_X7_changed (l : Launch) {D : va_G} {T : Nat → ClassId} {dE mi : Nat} {g : Nat} {S : Nat → Int32} {Y : Nat → Nat → Int32} {H : Heap} (hR : RM D T g S Y H) {M : mSt} (hM : Rel S Y M) {b : Nat} (hI : Inv b M) (x t : Int32) : vx_Met l yX7_changed wsX7_changed (rmL 1 0 0) (PcE D T dE mi (AM g) H [.ref g, .int x, .int t]) (QI (AM g) (fun r H1 => PM D T g (oChanged M x t) r H1)) (XX (AM g) (XN)) 0 0 (AM g) := by
  refine entry (cc := cX7_changed) (maxL := 7) (ret := (some .int)) (by decide) rfl (Nat.le_of_ble_eq_true rfl) ?_
  intro p e s m args below meth c hx hb hrt9 hml hown hts hlk hnt hnm hev hS ls hl
  have hown : s.vm.findClass RX7 = some m.cls := hown
  have hK := hev.1
  have hl : lv_has ls 7 [(0, .ref g), (1, .int x), (2, .int t)] := hl
  obtain ⟨hT, hE, hRw, hQ, hW, hY⟩ := id hM
  obtain ⟨iE, iR, iQ, iW, iY, hb9, hh⟩ := id hI
  have hb0 : b ≤ 1000000 := Nat.le_trans hb9 (by decide)
  have okk := iR.ok iE
  have h64 := okk.le
  have hq8 : (sQ M).1 < 2 ^ 31 := Nat.lt_of_le_of_lt iQ.1 (by decide)
  cases hin : inB x (sQ M).1
  · have ho : oChanged M x t = oErr M 1 := if_neg (by rw [hin]; decide)
    refine lv_iconst (v := nI 0) hx hb dX7_changed_0 (by decide) ?_
    refine lv_istore_n (lv' := [(3, .int (nI 0)), (0, .ref g), (1, .int x), (2, .int t)]) hx hb dX7_changed_1 rfl hl (by decide) rfl (fun ls hl => ?_)
    refine lv_iconst (v := nI 0) hx hb dX7_changed_2 (by decide) ?_
    refine lv_istore (lv' := [(4, .int (nI 0)), (3, .int (nI 0)), (0, .ref g), (1, .int x), (2, .int t)]) hx hb dX7_changed_3 hl (by decide) rfl (fun ls hl => ?_)
    refine lv_aload_n hx hb dX7_changed_5 rfl (lv_at hl 2 rfl) ?_
    refine lv_iload_n hx hb dX7_changed_6 rfl (lv_at hl 3 rfl) ?_
    refine lv_aload_n hx hb dX7_changed_7 rfl (lv_at hl 2 rfl) ?_
    refine m_get hx hb hts in_X7_changed_RX7 hown hK hR 16 (by decide) (hts (.fieldLink RX7 147 "ArcheloftModel" "questions" "I") (by decide +kernel)) rfl (v := .int (S 16)) rfl dX7_changed_8 ?_
    refine x_top (y := (nI ((sQ M).1))) (hQ.1) ?_
    refine k_ip (k_V (As := [.int x, .int (nI ((sQ M).1))]) (rest := []) ⟨hx, hb, hml, hown, hts⟩ hev hS (c_X7_isIn l hR (x)) (cwV 2 hts gX7_changed_X7_isIn rfl rfl rfl (by decide +kernel) ⟨Nat.le_of_ble_eq_true rfl, Nat.le_of_ble_eq_true rfl⟩) (x_recv hK hR.1 rfl) rfl hl.1 (Nat.le_of_ble_eq_true rfl) dX7_changed_11 (Nat.le_of_ble_eq_true rfl) (Nat.le_of_ble_eq_true rfl)) hS hnt hlk (fun _ _ h _ => h.elim) (Nat.le_of_ble_eq_true rfl) (Nat.le_of_ble_eq_true rfl) (fun rq1_ H1 locs1 hP hz1 hS => ?_)
    refine W.widen (k := 0) (n := 0) (Nat.le_refl _) (Nat.le_refl _) ?_
    obtain ⟨bq_, hbq_, erbq_, hR⟩ := hP
    rw [hin] at hbq_
    subst hbq_
    have hR : RM D T g (upd S 0 (nI 1)) Y H1 := hR
    refine x_top (y := (bI false)) (erbq_) ?_
    refine y_bif_eq hx hb (tgt := 127) dX7_changed_14 (by decide) (fun c14 => ?_) (fun c14 => ?_)
    · refine lv_iload_n hx hb dX7_changed_127 rfl (lv_at hl 1 rfl) ?_
      exact r_i hx hb hrt9 hlk hS (Nat.le_of_ble_eq_true rfl) (Nat.le_of_ble_eq_true rfl) dX7_changed_128 (by rw [ho]; exact PM.err (by decide) hR hM rfl)
    · exact absurd c14 (by decide)
  · obtain ⟨j1, hj1, rfl⟩ := inB_of hq8 hin
    have hl : lv_has ls 7 [(0, .ref g), (1, .int (nI j1)), (2, .int t)] := hl
    have hix := ix_nI (k := j1) (by omega)
    have ho : oChanged M (nI j1) t = oRet M (nI (cnt (fun k => mkd (sE M) k t 6 && mAl (sE M) k && ansQ (sQ M) j1 (mKd (sE M) k)) 32)) := by unfold oChanged; rw [hix]; exact if_pos hin
    refine lv_iconst (v := nI 0) hx hb dX7_changed_0 (by decide) ?_
    refine lv_istore_n (lv' := [(3, .int (nI 0)), (0, .ref g), (1, .int (nI j1)), (2, .int t)]) hx hb dX7_changed_1 rfl hl (by decide) rfl (fun ls hl => ?_)
    refine lv_iconst (v := nI 0) hx hb dX7_changed_2 (by decide) ?_
    refine lv_istore (lv' := [(4, .int (nI 0)), (3, .int (nI 0)), (0, .ref g), (1, .int (nI j1)), (2, .int t)]) hx hb dX7_changed_3 hl (by decide) rfl (fun ls hl => ?_)
    have loop5 : ∀ (n : Nat) (i : Nat) (S9 : Nat → Int32) (H9 : Heap) (locs9 : List Loc), 32 - i < n → (i ≤ 32) → (∀ j, j ≠ 0 → S9 j = S j) → (RM D T g S9 Y H9) → (va_S (AM g) s.heap H9 locs9) → ∀ (ls : Array Slot), lv_has ls 7 [(4, .int (nI i)), (3, .int (nI (cnt (fun k => mkd (sE M) k t 6 && mAl (sE M) k && ansQ (sQ M) j1 (mKd (sE M) k)) i))), (0, .ref g), (1, .int (nI j1)), (2, .int t)] → W p l e (rmL 1 0 0) s m args below meth c H9 locs9 (0) (0) (vx_MQ below (QI (AM g) (fun r H1 => PM D T g (oChanged M (nI j1) t) r H1)) (XX (AM g) (XN)) args s 0 0 (AM g)) (F0 m 5 ls []) := by
      intro n
      induction n with
      | zero => intro i S9 H9 locs9 hfuel; exact absurd hfuel (Nat.not_lt_zero _)
      | succ n ih5 =>
        intro i S9 H9 locs9 hfuel hi hS9 hR hS ls hl
        have hM9 := hM.cong0 hS9
        have hQ9 := hM9.2.2.2.1
        have hRw9 := hM9.2.2.1
        refine lv_aload_n hx hb dX7_changed_5 rfl (lv_at hl 2 rfl) ?_
        refine lv_iload_n hx hb dX7_changed_6 rfl (lv_at hl 3 rfl) ?_
        refine lv_aload_n hx hb dX7_changed_7 rfl (lv_at hl 2 rfl) ?_
        refine m_get hx hb hts in_X7_changed_RX7 hown hK hR 16 (by decide) (hts (.fieldLink RX7 147 "ArcheloftModel" "questions" "I") (by decide +kernel)) rfl (v := .int (S9 16)) rfl dX7_changed_8 ?_
        refine x_top (y := (nI ((sQ M).1))) (hQ9.1) ?_
        refine k_ip (k_V (As := [.int (nI j1), .int (nI ((sQ M).1))]) (rest := []) ⟨hx, hb, hml, hown, hts⟩ hev hS (c_X7_isIn l hR (nI j1)) (cwV 2 hts gX7_changed_X7_isIn rfl rfl rfl (by decide +kernel) ⟨Nat.le_of_ble_eq_true rfl, Nat.le_of_ble_eq_true rfl⟩) (x_recv hK hR.1 rfl) rfl hl.1 (Nat.le_of_ble_eq_true rfl) dX7_changed_11 (Nat.le_of_ble_eq_true rfl) (Nat.le_of_ble_eq_true rfl)) hS hnt hlk (fun _ _ h _ => h.elim) (Nat.le_of_ble_eq_true rfl) (Nat.le_of_ble_eq_true rfl) (fun rq2_ H2 locs2 hP hz2 hS => ?_)
        refine W.widen (k := 0) (n := 0) (Nat.le_refl _) (Nat.le_refl _) ?_
        obtain ⟨bq_, hbq_, erbq_, hR⟩ := hP
        rw [hin] at hbq_
        subst hbq_
        have hR : RM D T g (upd S9 0 (nI 0)) Y H2 := hR
        refine x_top (y := (bI true)) (erbq_) ?_
        refine y_bif_eq hx hb (tgt := 127) dX7_changed_14 (by decide) (fun c14 => ?_) (fun c14 => ?_)
        · exact absurd c14 (by decide)
        · refine lv_iload hx hb dX7_changed_17 (lv_at hl 0 rfl) ?_
          refine lv_bipush (v := nI 32) hx hb dX7_changed_19 (by decide) ?_
          refine y_icmp_ge hx hb (by omega) (Nat.le_of_ble_eq_true rfl) (tgt := 127) dX7_changed_21 (by decide) (fun c21 => ?_) (fun c21 => ?_)
          · refine lv_iload_n hx hb dX7_changed_127 rfl (lv_at hl 1 rfl) ?_
            exact r_i hx hb hrt9 hlk hS (Nat.le_of_ble_eq_true rfl) (Nat.le_of_ble_eq_true rfl) dX7_changed_128 (by rw [ho]; exact PM.ret hR hM9 rfl (by rw [show i = 32 by omega]))
          · refine lv_iconst (v := nI 0) hx hb dX7_changed_24 (by decide) ?_
            refine lv_istore (lv' := [(5, .int (bI false)), (4, .int (nI i)), (3, .int (nI (cnt (fun k => mkd (sE M) k t 6 && mAl (sE M) k && ansQ (sQ M) j1 (mKd (sE M) k)) i))), (0, .ref g), (1, .int (nI j1)), (2, .int t)]) hx hb dX7_changed_25 hl (by decide) rfl (fun ls hl => ?_)
            refine lv_iconst (v := nI 0) hx hb dX7_changed_27 (by decide) ?_
            refine lv_istore (lv' := [(6, .int (nI 0)), (5, .int (bI false)), (4, .int (nI i)), (3, .int (nI (cnt (fun k => mkd (sE M) k t 6 && mAl (sE M) k && ansQ (sQ M) j1 (mKd (sE M) k)) i))), (0, .ref g), (1, .int (nI j1)), (2, .int t)]) hx hb dX7_changed_28 hl (by decide) rfl (fun ls hl => ?_)
            have loop30 : ∀ (n : Nat) (n6 : Nat) (z9 : Bool) (H8 : Heap) (locs8 : List Loc), 6 - n6 < n → (n6 ≤ 6) → (mAl (sE M) i = true → z9 = mkd (sE M) i t n6) → (RM D T g (upd S9 0 (nI 0)) Y H8) → (va_S (AM g) s.heap H8 locs8) → ∀ (ls : Array Slot), lv_has ls 7 [(6, .int (nI n6)), (5, .int (bI z9)), (4, .int (nI i)), (3, .int (nI (cnt (fun k => mkd (sE M) k t 6 && mAl (sE M) k && ansQ (sQ M) j1 (mKd (sE M) k)) i))), (0, .ref g), (1, .int (nI j1)), (2, .int t)] → W p l e (rmL 1 0 0) s m args below meth c H8 locs8 (0) (0) (vx_MQ below (QI (AM g) (fun r H1 => PM D T g (oChanged M (nI j1) t) r H1)) (XX (AM g) (XN)) args s 0 0 (AM g)) (F0 m 30 ls []) := by
              intro n
              induction n with
              | zero => intro n6 z9 H8 locs8 hfuel; exact absurd hfuel (Nat.not_lt_zero _)
              | succ n ih30 =>
                intro n6 z9 H8 locs8 hfuel hn6 hzz hR hS ls hl
                refine lv_iload hx hb dX7_changed_30 (lv_at hl 0 rfl) ?_
                refine lv_bipush (v := nI 6) hx hb dX7_changed_32 (by decide) ?_
                refine y_icmp_ge hx hb (by omega) (Nat.le_of_ble_eq_true rfl) (tgt := 83) dX7_changed_34 (by decide) (fun c34 => ?_) (fun c34 => ?_)
                · refine lv_iload_n hx hb dX7_changed_83 rfl (lv_at hl 3 rfl) ?_
                  refine lv_iload hx hb dX7_changed_84 (lv_at hl 1 rfl) ?_
                  refine y_bif_eq hx hb (tgt := 118) dX7_changed_86 (by decide) (fun c86 => ?_) (fun c86 => ?_)
                  · refine lv_iconst (v := nI 0) hx hb dX7_changed_118 (by decide) ?_
                    refine y_iadd hx hb dX7_changed_119 ?_
                    have hn66 : n6 = 6 := by omega
                    rw [hn66] at hzz
                    refine x_top (y := (nI (cnt (fun k => mkd (sE M) k t 6 && mAl (sE M) k && ansQ (sQ M) j1 (mKd (sE M) k)) (i + 1)))) (by rw [cnt_f (f := (fun k => mkd (sE M) k t 6 && mAl (sE M) k && ansQ (sQ M) j1 (mKd (sE M) k))) (by show (mkd (sE M) i t 6 && mAl (sE M) i && ansQ (sQ M) j1 (mKd (sE M) i)) = false; cases qa : mAl (sE M) i with | false => simp | true => rw [← hzz qa, c86]; simp)]; rfl) ?_
                    refine lv_istore_n (lv' := [(3, .int (nI (cnt (fun k => mkd (sE M) k t 6 && mAl (sE M) k && ansQ (sQ M) j1 (mKd (sE M) k)) (i + 1)))), (6, .int (nI n6)), (5, .int (bI z9)), (4, .int (nI i)), (0, .ref g), (1, .int (nI j1)), (2, .int t)]) hx hb dX7_changed_120 rfl hl (by decide) rfl (fun ls hl => ?_)
                    refine lv_iinc (v := (nI (i + 1))) (lv' := [(4, .int (nI (i + 1))), (3, .int (nI (cnt (fun k => mkd (sE M) k t 6 && mAl (sE M) k && ansQ (sQ M) j1 (mKd (sE M) k)) (i + 1)))), (6, .int (nI n6)), (5, .int (bI z9)), (0, .ref g), (1, .int (nI j1)), (2, .int t)]) hx hb dX7_changed_121 hl (k := 3) rfl (nI_inc _) (by decide) rfl (fun ls hl => ?_)
                    refine lv_goto (tgt := 5) hx hb dX7_changed_124 (by decide) ?_
                    exact ih5 (i + 1) (upd S9 0 (nI 0)) H8 locs8 (by omega) (by omega) (fun j h => by show upd S9 0 (nI 0) j = _; rw [show upd S9 0 (nI 0) j = S9 j from if_neg h]; exact hS9 j h) hR hS ls (lv_sub hl [0, 1, 4, 5, 6] rfl)
                  · refine lv_aload_n hx hb dX7_changed_89 rfl (lv_at hl 4 rfl) ?_
                    refine m_get hx hb hts in_X7_changed_RX7 hown hK hR 2 (by decide) (hts (.fieldLink RX7 7 "ArcheloftModel" "isAlive" "[Z") (by decide +kernel)) rfl (v := .ref (g + 1)) rfl dX7_changed_90 ?_
                    refine lv_iload hx hb dX7_changed_93 (lv_at hl 2 rfl) ?_
                    refine m_ld1 (i := i) hx hb hK hR (by omega) dX7_changed_95 ?_
                    refine x_top (y := (bI (mAl (sE M) i))) (hE.1 i (by omega)) ?_
                    refine y_bif_eq hx hb (tgt := 118) dX7_changed_96 (by decide) (fun c96 => ?_) (fun c96 => ?_)
                    · refine lv_iconst (v := nI 0) hx hb dX7_changed_118 (by decide) ?_
                      refine y_iadd hx hb dX7_changed_119 ?_
                      have hn66 : n6 = 6 := by omega
                      rw [hn66] at hzz
                      refine x_top (y := (nI (cnt (fun k => mkd (sE M) k t 6 && mAl (sE M) k && ansQ (sQ M) j1 (mKd (sE M) k)) (i + 1)))) (by rw [cnt_f (f := (fun k => mkd (sE M) k t 6 && mAl (sE M) k && ansQ (sQ M) j1 (mKd (sE M) k))) (by show (mkd (sE M) i t 6 && mAl (sE M) i && ansQ (sQ M) j1 (mKd (sE M) i)) = false; rw [c96]; simp)]; rfl) ?_
                      refine lv_istore_n (lv' := [(3, .int (nI (cnt (fun k => mkd (sE M) k t 6 && mAl (sE M) k && ansQ (sQ M) j1 (mKd (sE M) k)) (i + 1)))), (6, .int (nI n6)), (5, .int (bI z9)), (4, .int (nI i)), (0, .ref g), (1, .int (nI j1)), (2, .int t)]) hx hb dX7_changed_120 rfl hl (by decide) rfl (fun ls hl => ?_)
                      refine lv_iinc (v := (nI (i + 1))) (lv' := [(4, .int (nI (i + 1))), (3, .int (nI (cnt (fun k => mkd (sE M) k t 6 && mAl (sE M) k && ansQ (sQ M) j1 (mKd (sE M) k)) (i + 1)))), (6, .int (nI n6)), (5, .int (bI z9)), (0, .ref g), (1, .int (nI j1)), (2, .int t)]) hx hb dX7_changed_121 hl (k := 3) rfl (nI_inc _) (by decide) rfl (fun ls hl => ?_)
                      refine lv_goto (tgt := 5) hx hb dX7_changed_124 (by decide) ?_
                      exact ih5 (i + 1) (upd S9 0 (nI 0)) H8 locs8 (by omega) (by omega) (fun j h => by show upd S9 0 (nI 0) j = _; rw [show upd S9 0 (nI 0) j = S9 j from if_neg h]; exact hS9 j h) hR hS ls (lv_sub hl [0, 1, 4, 5, 6] rfl)
                    · refine lv_aload_n hx hb dX7_changed_99 rfl (lv_at hl 4 rfl) ?_
                      refine lv_iload_n hx hb dX7_changed_100 rfl (lv_at hl 5 rfl) ?_
                      refine lv_aload_n hx hb dX7_changed_101 rfl (lv_at hl 4 rfl) ?_
                      refine m_get hx hb hts in_X7_changed_RX7 hown hK hR 4 (by decide) (hts (.fieldLink RX7 17 "ArcheloftModel" "kinds" "[I") (by decide +kernel)) rfl (v := .ref (g + 3)) rfl dX7_changed_102 ?_
                      refine lv_iload hx hb dX7_changed_105 (lv_at hl 2 rfl) ?_
                      refine m_ld3 (i := i) hx hb hK hR (by omega) dX7_changed_107 ?_
                      refine x_top (y := (nI (mKd (sE M) i))) (hE.2.2.1 i (by omega) c96) ?_
                      refine k_ip (k_V (As := [.int (nI j1), .int (nI (mKd (sE M) i))]) (rest := [.int (nI (cnt (fun k => mkd (sE M) k t 6 && mAl (sE M) k && ansQ (sQ M) j1 (mKd (sE M) k)) i))]) ⟨hx, hb, hml, hown, hts⟩ hev hS (c_X7_answersBy l hR (Nat.lt_of_lt_of_le hj1 iQ.1) ((hQ9.cong rfl (fun _ _ _ => rfl)).2 j1 hj1).1 ((hQ9.cong rfl (fun _ _ _ => rfl)).2 j1 hj1).2.1 ((hQ9.cong rfl (fun _ _ _ => rfl)).2 j1 hj1).2.2 (iQ.2 j1 hj1).1 (iQ.2 j1 hj1).2.1 (iQ.2 j1 hj1).2.2 (iE.1 i)) (cwV 2 hts gX7_changed_X7_answersBy rfl rfl rfl (by decide +kernel) ⟨Nat.le_of_ble_eq_true rfl, Nat.le_of_ble_eq_true rfl⟩) (x_recv hK hR.1 rfl) rfl hl.1 (Nat.le_of_ble_eq_true rfl) dX7_changed_108 (Nat.le_of_ble_eq_true rfl) (Nat.le_of_ble_eq_true rfl)) hS hnt hlk (fun _ _ h _ => h.elim) (Nat.le_of_ble_eq_true rfl) (Nat.le_of_ble_eq_true rfl) (fun rq3_ H3 locs3 hP hz3 hS => ?_)
                      refine W.widen (k := 0) (n := 0) (Nat.le_refl _) (Nat.le_refl _) ?_
                      have hR : RM D T g (upd S9 0 (nI 0)) Y H3 := by rw [hP.1]; exact hR
                      have era := hP.2
                      refine x_top (y := (bI (ansQ (sQ M) j1 (mKd (sE M) i)))) (era) ?_
                      refine y_bif_eq hx hb (tgt := 118) dX7_changed_111 (by decide) (fun c111 => ?_) (fun c111 => ?_)
                      · refine lv_iconst (v := nI 0) hx hb dX7_changed_118 (by decide) ?_
                        refine y_iadd hx hb dX7_changed_119 ?_
                        have hn66 : n6 = 6 := by omega
                        rw [hn66] at hzz
                        refine x_top (y := (nI (cnt (fun k => mkd (sE M) k t 6 && mAl (sE M) k && ansQ (sQ M) j1 (mKd (sE M) k)) (i + 1)))) (by rw [cnt_f (f := (fun k => mkd (sE M) k t 6 && mAl (sE M) k && ansQ (sQ M) j1 (mKd (sE M) k))) (by show (mkd (sE M) i t 6 && mAl (sE M) i && ansQ (sQ M) j1 (mKd (sE M) i)) = false; rw [c111]; simp)]; rfl) ?_
                        refine lv_istore_n (lv' := [(3, .int (nI (cnt (fun k => mkd (sE M) k t 6 && mAl (sE M) k && ansQ (sQ M) j1 (mKd (sE M) k)) (i + 1)))), (6, .int (nI n6)), (5, .int (bI z9)), (4, .int (nI i)), (0, .ref g), (1, .int (nI j1)), (2, .int t)]) hx hb dX7_changed_120 rfl hl (by decide) rfl (fun ls hl => ?_)
                        refine lv_iinc (v := (nI (i + 1))) (lv' := [(4, .int (nI (i + 1))), (3, .int (nI (cnt (fun k => mkd (sE M) k t 6 && mAl (sE M) k && ansQ (sQ M) j1 (mKd (sE M) k)) (i + 1)))), (6, .int (nI n6)), (5, .int (bI z9)), (0, .ref g), (1, .int (nI j1)), (2, .int t)]) hx hb dX7_changed_121 hl (k := 3) rfl (nI_inc _) (by decide) rfl (fun ls hl => ?_)
                        refine lv_goto (tgt := 5) hx hb dX7_changed_124 (by decide) ?_
                        exact ih5 (i + 1) (upd S9 0 (nI 0)) H3 locs3 (by omega) (by omega) (fun j h => by show upd S9 0 (nI 0) j = _; rw [show upd S9 0 (nI 0) j = S9 j from if_neg h]; exact hS9 j h) hR hS ls (lv_sub hl [0, 1, 4, 5, 6] rfl)
                      · refine lv_iconst (v := nI 1) hx hb dX7_changed_114 (by decide) ?_
                        refine lv_goto (tgt := 119) hx hb dX7_changed_115 (by decide) ?_
                        refine y_iadd hx hb dX7_changed_119 ?_
                        have hn66 : n6 = 6 := by omega
                        rw [hn66] at hzz
                        refine x_top (y := (nI (cnt (fun k => mkd (sE M) k t 6 && mAl (sE M) k && ansQ (sQ M) j1 (mKd (sE M) k)) (i + 1)))) (by rw [cnt_t (f := (fun k => mkd (sE M) k t 6 && mAl (sE M) k && ansQ (sQ M) j1 (mKd (sE M) k))) (by show (mkd (sE M) i t 6 && mAl (sE M) i && ansQ (sQ M) j1 (mKd (sE M) i)) = true; rw [← hzz c96, c86, c96, c111]; rfl)]) ?_
                        refine lv_istore_n (lv' := [(3, .int (nI (cnt (fun k => mkd (sE M) k t 6 && mAl (sE M) k && ansQ (sQ M) j1 (mKd (sE M) k)) (i + 1)))), (6, .int (nI n6)), (5, .int (bI z9)), (4, .int (nI i)), (0, .ref g), (1, .int (nI j1)), (2, .int t)]) hx hb dX7_changed_120 rfl hl (by decide) rfl (fun ls hl => ?_)
                        refine lv_iinc (v := (nI (i + 1))) (lv' := [(4, .int (nI (i + 1))), (3, .int (nI (cnt (fun k => mkd (sE M) k t 6 && mAl (sE M) k && ansQ (sQ M) j1 (mKd (sE M) k)) (i + 1)))), (6, .int (nI n6)), (5, .int (bI z9)), (0, .ref g), (1, .int (nI j1)), (2, .int t)]) hx hb dX7_changed_121 hl (k := 3) rfl (nI_inc _) (by decide) rfl (fun ls hl => ?_)
                        refine lv_goto (tgt := 5) hx hb dX7_changed_124 (by decide) ?_
                        exact ih5 (i + 1) (upd S9 0 (nI 0)) H3 locs3 (by omega) (by omega) (fun j h => by show upd S9 0 (nI 0) j = _; rw [show upd S9 0 (nI 0) j = S9 j from if_neg h]; exact hS9 j h) hR hS ls (lv_sub hl [0, 1, 4, 5, 6] rfl)
                · refine lv_iload hx hb dX7_changed_37 (lv_at hl 1 rfl) ?_
                  refine y_bif_ne hx hb (tgt := 70) dX7_changed_39 (by decide) (fun c39 => ?_) (fun c39 => ?_)
                  · refine lv_iconst (v := nI 1) hx hb dX7_changed_70 (by decide) ?_
                    refine lv_goto (tgt := 75) hx hb dX7_changed_71 (by decide) ?_
                    refine lv_istore (lv' := [(5, .int (bI true)), (6, .int (nI n6)), (4, .int (nI i)), (3, .int (nI (cnt (fun k => mkd (sE M) k t 6 && mAl (sE M) k && ansQ (sQ M) j1 (mKd (sE M) k)) i))), (0, .ref g), (1, .int (nI j1)), (2, .int t)]) hx hb dX7_changed_75 hl (by decide) rfl (fun ls hl => ?_)
                    refine lv_iinc (v := (nI (n6 + 1))) (lv' := [(6, .int (nI (n6 + 1))), (5, .int (bI true)), (4, .int (nI i)), (3, .int (nI (cnt (fun k => mkd (sE M) k t 6 && mAl (sE M) k && ansQ (sQ M) j1 (mKd (sE M) k)) i))), (0, .ref g), (1, .int (nI j1)), (2, .int t)]) hx hb dX7_changed_77 hl (k := 1) rfl (nI_inc _) (by decide) rfl (fun ls hl => ?_)
                    refine lv_goto (tgt := 30) hx hb dX7_changed_80 (by decide) ?_
                    exact ih30 (n6 + 1) true H8 locs8 (by omega) (by omega) (fun qa => by show _ = (mkd (sE M) i t n6 || (bitS (mKd (sE M) i) n6 && decide (t < mMk (sE M) i n6))); rw [← hzz qa, c39]; simp) hR hS ls (lv_sub hl [0, 1, 2, 3, 4, 5, 6] rfl)
                  · refine lv_aload_n hx hb dX7_changed_42 rfl (lv_at hl 4 rfl) ?_
                    refine lv_iload hx hb dX7_changed_43 (lv_at hl 2 rfl) ?_
                    refine lv_iload hx hb dX7_changed_45 (lv_at hl 0 rfl) ?_
                    refine k_ip (k_V (As := [.int (nI i), .int (nI n6)]) (rest := []) ⟨hx, hb, hml, hown, hts⟩ hev hS (c_X7_has l hR (i := n6) (show i < 32 by omega)) (cwV 2 hts gX7_changed_X7_has rfl rfl rfl (by decide +kernel) ⟨Nat.le_of_ble_eq_true rfl, Nat.le_of_ble_eq_true rfl⟩) (x_recv hK hR.1 rfl) rfl hl.1 (Nat.le_of_ble_eq_true rfl) dX7_changed_47 (Nat.le_of_ble_eq_true rfl) (Nat.le_of_ble_eq_true rfl)) hS hnt hlk (fun _ _ h _ => h.elim) (Nat.le_of_ble_eq_true rfl) (Nat.le_of_ble_eq_true rfl) (fun rq4_ H4 locs4 hP hz4 hS => ?_)
                    refine W.widen (k := 0) (n := 0) (Nat.le_refl _) (Nat.le_refl _) ?_
                    have hR : RM D T g (upd S9 0 (nI 0)) Y H4 := by rw [hP.1]; exact hR
                    have erh := hP.2
                    refine x_top (y := (bI (hasR (Y 3 i) n6))) (erh) ?_
                    refine y_bif_eq hx hb (tgt := 74) dX7_changed_50 (by decide) (fun c50 => ?_) (fun c50 => ?_)
                    · refine lv_iconst (v := nI 0) hx hb dX7_changed_74 (by decide) ?_
                      refine lv_istore (lv' := [(5, .int (bI false)), (6, .int (nI n6)), (4, .int (nI i)), (3, .int (nI (cnt (fun k => mkd (sE M) k t 6 && mAl (sE M) k && ansQ (sQ M) j1 (mKd (sE M) k)) i))), (0, .ref g), (1, .int (nI j1)), (2, .int t)]) hx hb dX7_changed_75 hl (by decide) rfl (fun ls hl => ?_)
                      refine lv_iinc (v := (nI (n6 + 1))) (lv' := [(6, .int (nI (n6 + 1))), (5, .int (bI false)), (4, .int (nI i)), (3, .int (nI (cnt (fun k => mkd (sE M) k t 6 && mAl (sE M) k && ansQ (sQ M) j1 (mKd (sE M) k)) i))), (0, .ref g), (1, .int (nI j1)), (2, .int t)]) hx hb dX7_changed_77 hl (k := 1) rfl (nI_inc _) (by decide) rfl (fun ls hl => ?_)
                      refine lv_goto (tgt := 30) hx hb dX7_changed_80 (by decide) ?_
                      exact ih30 (n6 + 1) false H4 locs4 (by omega) (by omega) (fun qa => by show _ = (mkd (sE M) i t n6 || (bitS (mKd (sE M) i) n6 && decide (t < mMk (sE M) i n6))); rw [← hzz qa, c39, show bitS (mKd (sE M) i) n6 = false by rw [← hasR_nI (iE.1 i) (by omega), ← hE.2.2.1 i (by omega) qa]; exact c50]; simp) hR hS ls (lv_sub hl [0, 1, 2, 3, 4, 5, 6] rfl)
                    · refine lv_aload_n hx hb dX7_changed_53 rfl (lv_at hl 4 rfl) ?_
                      refine m_get hx hb hts in_X7_changed_RX7 hown hK hR 7 (by decide) (hts (.fieldLink RX7 26 "ArcheloftModel" "marks" "[I") (by decide +kernel)) rfl (v := .ref (g + 6)) rfl dX7_changed_54 ?_
                      refine lv_bipush (v := nI 6) hx hb dX7_changed_57 (by decide) ?_
                      refine lv_iload hx hb dX7_changed_59 (lv_at hl 2 rfl) ?_
                      refine y_imul hx hb dX7_changed_61 ?_
                      refine lv_iload hx hb dX7_changed_62 (lv_at hl 0 rfl) ?_
                      refine y_iadd hx hb dX7_changed_64 ?_
                      refine m_ld6 (i := (6 * i) + n6) hx hb hK hR (by omega) dX7_changed_65 ?_
                      refine lv_iload_n hx hb dX7_changed_66 rfl (lv_at hl 6 rfl) ?_
                      refine lv_icmp_le (tgt := 74) hx hb dX7_changed_67 (by decide) (fun c67 => ?_) (fun c67 => ?_)
                      · refine lv_iconst (v := nI 0) hx hb dX7_changed_74 (by decide) ?_
                        refine lv_istore (lv' := [(5, .int (bI false)), (6, .int (nI n6)), (4, .int (nI i)), (3, .int (nI (cnt (fun k => mkd (sE M) k t 6 && mAl (sE M) k && ansQ (sQ M) j1 (mKd (sE M) k)) i))), (0, .ref g), (1, .int (nI j1)), (2, .int t)]) hx hb dX7_changed_75 hl (by decide) rfl (fun ls hl => ?_)
                        refine lv_iinc (v := (nI (n6 + 1))) (lv' := [(6, .int (nI (n6 + 1))), (5, .int (bI false)), (4, .int (nI i)), (3, .int (nI (cnt (fun k => mkd (sE M) k t 6 && mAl (sE M) k && ansQ (sQ M) j1 (mKd (sE M) k)) i))), (0, .ref g), (1, .int (nI j1)), (2, .int t)]) hx hb dX7_changed_77 hl (k := 1) rfl (nI_inc _) (by decide) rfl (fun ls hl => ?_)
                        refine lv_goto (tgt := 30) hx hb dX7_changed_80 (by decide) ?_
                        exact ih30 (n6 + 1) false H4 locs4 (by omega) (by omega) (fun qa => by show _ = (mkd (sE M) i t n6 || (bitS (mKd (sE M) i) n6 && decide (t < mMk (sE M) i n6))); rw [← hzz qa, c39, show decide (t < mMk (sE M) i n6) = false from decide_eq_false (fun w => absurd w (Int32.not_lt.mpr (by rw [← hE.2.2.2.2.2 i n6 (by omega) (by omega)]; exact c67))), Bool.and_false]; simp) hR hS ls (lv_sub hl [0, 1, 2, 3, 4, 5, 6] rfl)
                      · refine lv_iconst (v := nI 1) hx hb dX7_changed_70 (by decide) ?_
                        refine lv_goto (tgt := 75) hx hb dX7_changed_71 (by decide) ?_
                        refine lv_istore (lv' := [(5, .int (bI true)), (6, .int (nI n6)), (4, .int (nI i)), (3, .int (nI (cnt (fun k => mkd (sE M) k t 6 && mAl (sE M) k && ansQ (sQ M) j1 (mKd (sE M) k)) i))), (0, .ref g), (1, .int (nI j1)), (2, .int t)]) hx hb dX7_changed_75 hl (by decide) rfl (fun ls hl => ?_)
                        refine lv_iinc (v := (nI (n6 + 1))) (lv' := [(6, .int (nI (n6 + 1))), (5, .int (bI true)), (4, .int (nI i)), (3, .int (nI (cnt (fun k => mkd (sE M) k t 6 && mAl (sE M) k && ansQ (sQ M) j1 (mKd (sE M) k)) i))), (0, .ref g), (1, .int (nI j1)), (2, .int t)]) hx hb dX7_changed_77 hl (k := 1) rfl (nI_inc _) (by decide) rfl (fun ls hl => ?_)
                        refine lv_goto (tgt := 30) hx hb dX7_changed_80 (by decide) ?_
                        exact ih30 (n6 + 1) true H4 locs4 (by omega) (by omega) (fun qa => by show _ = (mkd (sE M) i t n6 || (bitS (mKd (sE M) i) n6 && decide (t < mMk (sE M) i n6))); rw [← hzz qa, c39, show bitS (mKd (sE M) i) n6 = true by rw [← hasR_nI (iE.1 i) (by omega), ← hE.2.2.1 i (by omega) qa]; exact c50, show decide (t < mMk (sE M) i n6) = true from decide_eq_true (by rw [← hE.2.2.2.2.2 i n6 (by omega) (by omega)]; exact i32_nle c67)]; simp) hR hS ls (lv_sub hl [0, 1, 2, 3, 4, 5, 6] rfl)
            exact loop30 (6 + 1) 0 false H2 locs2 (Nat.lt_succ_self _) (Nat.zero_le _) (fun _ => rfl) hR hS ls (lv_sub hl [0, 1, 2, 3, 4, 5, 6] rfl)
    exact loop5 ((32 - 0) + 1) 0 S H [] (Nat.lt_succ_self _) (Nat.zero_le _) (fun _ _ => rfl) hR hS ls (lv_sub hl [0, 1, 2, 3, 4] rfl)

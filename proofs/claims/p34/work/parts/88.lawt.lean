theorem so_0 {M : mSt} {j : Nat} (h : j < rN (sR M)) (h64 : rN (sR M) ≤ 64) : oSetOf M (nI j) = oRet M (nI (rS (sR M) j)) := by unfold oSetOf; rw [inBt h (by omega), ix_nI (by omega)]
theorem sz_0 {M : mSt} {j : Nat} (h : j < rN (sR M)) (h64 : rN (sR M) ≤ 64) : oSize M (nI j) = oRet M (nI (rZ (sR M) j)) := by unfold oSize; rw [inBt h (by omega), ix_nI (by omega)]
theorem ea_0 {M : mSt} {j i : Nat} (h : j < rN (sR M)) (h64 : rN (sR M) ≤ 64) (hi : i < rZ (sR M) j) (hz : rZ (sR M) j ≤ 32) : oEntityAt M (nI j) (nI i) = oRet M (handle (sE M) (rM (sR M) j i)) := by
  unfold oEntityAt; rw [ix_nI (by omega), ix_nI (by omega)]; exact if_pos ⟨inB_nI h (by omega), inB_nI hi (by omega)⟩
theorem ea_e {M : mSt} {j : Nat} (h64 : j < 2 ^ 31) (hz : rZ (sR M) j < 2 ^ 31) : oEntityAt M (nI j) (nI (rZ (sR M) j)) = oErr M 1 := by
  unfold oEntityAt; rw [ix_nI (by omega)]; exact if_neg (fun z => by rw [inB_nI_f hz (Nat.le_refl _)] at z; cases z.2)
theorem aw_0 {M : mSt} {q x : Nat} (h : q < (sQ M).1) (h8 : (sQ M).1 ≤ 8) (hx : x < aN (sQ M) (sR M) q) (h32 : aN (sQ M) (sR M) q ≤ 32) : oAnswer M (nI q) (nI x) = oRet M (hdlO (sE M) (aP (sQ M) (sR M) q x)) := by
  unfold oAnswer; rw [ix_nI (by omega), ix_nI (by omega)]; exact if_pos ⟨inB_nI h (by omega), inB_nI hx (by omega)⟩
theorem aw_e {M : mSt} {q : Nat} (h8 : q < 2 ^ 31) (h32 : aN (sQ M) (sR M) q < 2 ^ 31) : oAnswer M (nI q) (nI (aN (sQ M) (sR M) q)) = oErr M 1 := by
  unfold oAnswer; rw [ix_nI (by omega)]; exact if_neg (fun z => by rw [inB_nI_f h32 (Nat.le_refl _)] at z; cases z.2)
theorem as_0 {M : mSt} {q : Nat} (h : q < (sQ M).1) (h8 : (sQ M).1 ≤ 8) : oAnswers M (nI q) = oRet M (nI (aN (sQ M) (sR M) q)) := by unfold oAnswers; rw [inBt h (by omega), ix_nI (by omega)]
theorem ob_0 {M : mSt} {q : Nat} (h : q < (sQ M).1) (h8 : (sQ M).1 ≤ 8) : oOneByOne M (nI q) = oRet M (nI (cnt (fun k => mAl (sE M) k && ansQ (sQ M) q (mKd (sE M) k)) 32)) := by unfold oOneByOne; rw [inBt h (by omega), ix_nI (by omega)]
theorem ar_0 {M : mSt} {q : Nat} (h : q < (sQ M).1) (h8 : (sQ M).1 ≤ 8) : oAnsRows M (nI q) = oRet M (nI (cnt (fun r => ansQ (sQ M) q (rS (sR M) r)) (rN (sR M)))) := by unfold oAnsRows; rw [inBt h (by omega), ix_nI (by omega)]
theorem ch_0 {M : mSt} {q : Nat} {t : Int32} (h : q < (sQ M).1) (h8 : (sQ M).1 ≤ 8) : oChanged M (nI q) t = oRet M (nI (cnt (fun k => mkd (sE M) k t 6 && mAl (sE M) k && ansQ (sQ M) q (mKd (sE M) k)) 32)) := by unfold oChanged; rw [inBt h (by omega), ix_nI (by omega)]
theorem one_cnt {E : mE} {Q : mQ} {R : mR} (iE : InvE E) (iR : InvR E R) (q : Nat) : cnt (fun k => mAl E k && ansQ Q q (mKd E k)) 32 = aN Q R q := by
  have h := ans_cnt (Q := Q) iE iR q (fun _ => true)
  rw [cnt_all] at h
  rw [h]
  exact cnt_same 32 (fun k _ => (Bool.true_and _).symm)
theorem chg_cnt {E : mE} {Q : mQ} {R : mR} (iE : InvE E) (iR : InvR E R) (q : Nat) (t : Int32) : cnt (fun z => mkd E ((aP Q R q z).getD 0) t 6) (aN Q R q) = cnt (fun k => mkd E k t 6 && mAl E k && ansQ Q q (mKd E k)) 32 := by
  rw [ans_cnt (Q := Q) iE iR q (fun k => mkd E k t 6)]
  exact cnt_same 32 (fun k _ => (Bool.and_assoc _ _ _).symm)
theorem mk_t {E : mE} {k i : Nat} {t : Int32} (h1 : bitS (mKd E k) i = true) (h2 : ¬ mMk E k i ≤ t) : bI (mkd E k t i) ||| nI 1 = bI (mkd E k t (i + 1)) := by
  show _ = bI (mkd E k t i || (bitS (mKd E k) i && decide (t < mMk E k i)))
  rw [h1, decide_eq_true (Int32.not_le.mp h2)]
  cases mkd E k t i <;> decide
theorem mk_f {E : mE} {k i : Nat} {t : Int32} (h : bitS (mKd E k) i = false ∨ mMk E k i ≤ t) : bI (mkd E k t i) ||| nI 0 = bI (mkd E k t (i + 1)) := by
  show _ = bI (mkd E k t i || (bitS (mKd E k) i && decide (t < mMk E k i)))
  have : (bitS (mKd E k) i && decide (t < mMk E k i)) = false := by
    rcases h with h | h
    · rw [h]; rfl
    · rw [decide_eq_false (Int32.not_lt.mpr h), Bool.and_false]
  rw [this]
  cases mkd E k t i <;> decide
set_option maxHeartbeats 4000000 in
set_option maxRecDepth 100000 in
theorem c_L_rows (l : Launch) {D : va_G} {T : Nat → ClassId} {dE mi : Nat} (hst : l.stackTraces = false) {A : Nat → Prop} {g b0 bd : Nat} {Y : Nat → Nat → Int32} {M : mSt} {H : Heap} (hPK : PK D T dE b0 A g Y M H) (hI : Inv bd M) (hT : LTw Y (sE M) (sR M)) (hQ : LQ Y (sQ M)) (ht : Y 9 1 = sT M) : vx_Met l yL_rows wsL_rows (rmL 12 3584 41216) (PcE D T dE mi A H [.ref b0, .ref (g + 1), .ref (g + 4), .ref (g + 9), .ref (g + 5), .ref (g + 3)]) (QI A (fun r H1 => r = nI 1 ∧ PK D T dE b0 A g Y M H1)) (XX A (XN)) 3584 41216 A := by
  refine entry (cc := cL_rows) (maxL := 15) (ret := (some .boolean)) (by decide) rfl (Nat.le_of_ble_eq_true rfl) ?_
  intro p e s m args below meth c hx hb hrt9 hml hown hts hlk hnt hnm hev hS ls hl
  have hown : s.vm.findClass RL = some m.cls := hown
  have hK := hev.1
  have hl : lv_has ls 15 [(0, .ref b0), (1, .ref (g + 1)), (2, .ref (g + 4)), (3, .ref (g + 9)), (4, .ref (g + 5)), (5, .ref (g + 3))] := hl
  have hL := hPK.sl
  have iE := hI.1
  have iR := hI.2.1
  have iQ := hI.2.2.1
  have h10 := hT.1.2.2.2.2.1
  have ok := iR.ok iE
  have h64 := ok.le
  have ha := hT.1.1
  have hq8 := iQ.1
  have hg0 := hT.2.1.1
  refine lv_aload_n hx hb dL_rows_0 rfl (lv_at hl 0 rfl) ?_
  refine k_ip (k_V (As := []) (rest := []) ⟨hx, hb, hml, hown, hts⟩ hev hS (w_rows l hst hPK hI) (cwV 0 hts gL_rows_X6_rows rfl rfl rfl (by decide +kernel) ⟨Nat.le_of_ble_eq_true rfl, Nat.le_of_ble_eq_true rfl⟩) (pk_recv hK hPK) rfl hl.1 (Nat.le_of_ble_eq_true rfl) dL_rows_1 (Nat.le_of_ble_eq_true rfl) (Nat.le_of_ble_eq_true rfl)) hS hnt hlk (fun _ _ h _ => h.elim) (Nat.le_of_ble_eq_true rfl) (Nat.le_of_ble_eq_true rfl) (fun rq1_ H1 locs1 hP hz1 hS => ?_)
  refine W.widen (k := 0) (n := 0) (Nat.le_refl _) (Nat.le_refl _) ?_
  have er := hP.1
  have hPK : PK D T dE b0 A g Y M H1 := hP.2
  have hL := hPK.sl
  refine x_top (y := (nI (rN (sR M)))) (er) ?_
  refine lv_aload_n hx hb dL_rows_4 rfl (lv_at hl 3 rfl) ?_
  refine lv_iconst (v := nI 0) hx hb dL_rows_5 (by decide) ?_
  refine n_ld9 (i := 0) hx hb hK hL (by omega) dL_rows_6 ?_
  refine x_top (y := (nI (rN (sR M)))) (hg0) ?_
  refine y_icmp_eq hx hb (by omega) (by omega) (tgt := 12) dL_rows_7 (by decide) (fun c7 => ?_) (fun c7 => ?_)
  · refine lv_iconst (v := nI 0) hx hb dL_rows_12 (by decide) ?_
    refine W.widen (k := 24 * 0) (n := 144 * 0) (by omega) (by omega) ?_
    refine lv_istore (lv' := [(6, .int (nI 0)), (0, .ref b0), (1, .ref (g + 1)), (2, .ref (g + 4)), (3, .ref (g + 9)), (4, .ref (g + 5)), (5, .ref (g + 3))]) hx hb dL_rows_13 hl (by decide) rfl (fun ls hl => ?_)
    have loop15 : ∀ (n : Nat) (n9 : Nat) (H9 : Heap) (locs9 : List Loc), rN (sR M) - n9 < n → (n9 ≤ rN (sR M)) → (PK D T dE b0 A g Y M H9) → (va_S A s.heap H9 locs9) → ∀ (ls : Array Slot), lv_has ls 15 [(6, .int (nI n9)), (0, .ref b0), (1, .ref (g + 1)), (2, .ref (g + 4)), (3, .ref (g + 9)), (4, .ref (g + 5)), (5, .ref (g + 3))] → W p l e (rmL 12 3584 41216) s m args below meth c H9 locs9 (24 * n9) (144 * n9) (vx_MQ below (QI A (fun r H1 => r = nI 1 ∧ PK D T dE b0 A g Y M H1)) (XX A (XN)) args s 3584 41216 A) (F0 m 15 ls []) := by
      intro n
      induction n with
      | zero => intro n9 H9 locs9 hfuel; exact absurd hfuel (Nat.not_lt_zero _)
      | succ n ih15 =>
        intro n9 H9 locs9 hfuel hn9 hPK hS ls hl
        have hL := hPK.sl
        refine lv_iload hx hb dL_rows_15 (lv_at hl 0 rfl) ?_
        refine lv_aload_n hx hb dL_rows_17 rfl (lv_at hl 4 rfl) ?_
        refine lv_iconst (v := nI 0) hx hb dL_rows_18 (by decide) ?_
        refine n_ld9 (i := 0) hx hb hK hL (by omega) dL_rows_19 ?_
        refine x_top (y := (nI (rN (sR M)))) (hg0) ?_
        refine y_icmp_ge hx hb (by omega) (by omega) (tgt := 118) dL_rows_20 (by decide) (fun c20 => ?_) (fun c20 => ?_)
        · refine W.widen (k := 1536 + 256 * 0) (n := 9216 + 4000 * 0) (by omega) (by omega) ?_
          refine lv_iconst (v := nI 0) hx hb dL_rows_118 (by decide) ?_
          refine lv_istore (lv' := [(6, .int (nI 0)), (0, .ref b0), (1, .ref (g + 1)), (2, .ref (g + 4)), (3, .ref (g + 9)), (4, .ref (g + 5)), (5, .ref (g + 3))]) hx hb dL_rows_119 hl (by decide) rfl (fun ls hl => ?_)
          have loop121 : ∀ (n : Nat) (q9 : Nat) (H8 : Heap) (locs8 : List Loc), (sQ M).1 - q9 < n → (q9 ≤ (sQ M).1) → (PK D T dE b0 A g Y M H8) → (va_S A s.heap H8 locs8) → ∀ (ls : Array Slot), lv_has ls 15 [(6, .int (nI q9)), (0, .ref b0), (1, .ref (g + 1)), (2, .ref (g + 4)), (3, .ref (g + 9)), (4, .ref (g + 5)), (5, .ref (g + 3))] → W p l e (rmL 12 3584 41216) s m args below meth c H8 locs8 (1536 + 256 * q9) (9216 + 4000 * q9) (vx_MQ below (QI A (fun r H1 => r = nI 1 ∧ PK D T dE b0 A g Y M H1)) (XX A (XN)) args s 3584 41216 A) (F0 m 121 ls []) := by
            intro n
            induction n with
            | zero => intro q9 H8 locs8 hfuel; exact absurd hfuel (Nat.not_lt_zero _)
            | succ n ih121 =>
              intro q9 H8 locs8 hfuel hq9 hPK hS ls hl
              have hL := hPK.sl
              refine lv_iload hx hb dL_rows_121 (lv_at hl 0 rfl) ?_
              refine lv_aload_n hx hb dL_rows_123 rfl (lv_at hl 4 rfl) ?_
              refine lv_iconst (v := nI 2) hx hb dL_rows_124 (by decide) ?_
              refine n_ld9 (i := 2) hx hb hK hL (by omega) dL_rows_125 ?_
              refine x_top (y := (nI ((sQ M).1))) (hQ.1) ?_
              refine y_icmp_ge hx hb (by omega) (by omega) (tgt := 379) dL_rows_126 (by decide) (fun c126 => ?_) (fun c126 => ?_)
              · refine lv_iconst (v := nI 1) hx hb dL_rows_379 (by decide) ?_
                exact r_z hx hb hrt9 hlk hS (by omega) (by omega) dL_rows_380 rfl (⟨rfl, hPK⟩)
              · have hA32 := aN_le iE iR q9 (Q := sQ M)
                refine lv_iconst (v := nI 0) hx hb dL_rows_129 (by decide) ?_
                refine lv_istore (lv' := [(7, .int (nI 0)), (6, .int (nI q9)), (0, .ref b0), (1, .ref (g + 1)), (2, .ref (g + 4)), (3, .ref (g + 9)), (4, .ref (g + 5)), (5, .ref (g + 3))]) hx hb dL_rows_130 hl (by decide) rfl (fun ls hl => ?_)
                refine lv_iconst (v := nI 0) hx hb dL_rows_132 (by decide) ?_
                refine lv_istore (lv' := [(8, .int (nI 0)), (7, .int (nI 0)), (6, .int (nI q9)), (0, .ref b0), (1, .ref (g + 1)), (2, .ref (g + 4)), (3, .ref (g + 9)), (4, .ref (g + 5)), (5, .ref (g + 3))]) hx hb dL_rows_133 hl (by decide) rfl (fun ls hl => ?_)
                refine lv_iconst (v := nI 0) hx hb dL_rows_135 (by decide) ?_
                refine lv_istore (lv' := [(9, .int (nI 0)), (8, .int (nI 0)), (7, .int (nI 0)), (6, .int (nI q9)), (0, .ref b0), (1, .ref (g + 1)), (2, .ref (g + 4)), (3, .ref (g + 9)), (4, .ref (g + 5)), (5, .ref (g + 3))]) hx hb dL_rows_136 hl (by decide) rfl (fun ls hl => ?_)
                refine lv_iconst (v := nI 0) hx hb dL_rows_138 (by decide) ?_
                refine W.widen (k := 1536 + 256 * q9 + 7 * aTo (sQ M) (sR M) q9 0) (n := 9216 + 4000 * q9 + 95 * aTo (sQ M) (sR M) q9 0) (by omega) (by omega) ?_
                refine lv_istore (lv' := [(10, .int (nI 0)), (9, .int (nI 0)), (8, .int (nI 0)), (7, .int (nI 0)), (6, .int (nI q9)), (0, .ref b0), (1, .ref (g + 1)), (2, .ref (g + 4)), (3, .ref (g + 9)), (4, .ref (g + 5)), (5, .ref (g + 3))]) hx hb dL_rows_139 hl (by decide) rfl (fun ls hl => ?_)
                have loop141 : ∀ (n : Nat) (n8 : Nat) (H7 : Heap) (locs7 : List Loc), rN (sR M) - n8 < n → (n8 ≤ rN (sR M)) → (PK D T dE b0 A g Y M H7) → (va_S A s.heap H7 locs7) → ∀ (ls : Array Slot), lv_has ls 15 [(10, .int (nI n8)), (9, .int (nI (cnt (fun z => mkd (sE M) ((aP (sQ M) (sR M) q9 z).getD 0) (sT M - nI 2) 6) (aTo (sQ M) (sR M) q9 n8)))), (8, .int (nI (cnt (fun r => ansQ (sQ M) q9 (rS (sR M) r)) n8))), (7, .int (nI (aTo (sQ M) (sR M) q9 n8))), (6, .int (nI q9)), (0, .ref b0), (1, .ref (g + 1)), (2, .ref (g + 4)), (3, .ref (g + 9)), (4, .ref (g + 5)), (5, .ref (g + 3))] → W p l e (rmL 12 3584 41216) s m args below meth c H7 locs7 (1536 + 256 * q9 + 7 * aTo (sQ M) (sR M) q9 n8) (9216 + 4000 * q9 + 95 * aTo (sQ M) (sR M) q9 n8) (vx_MQ below (QI A (fun r H1 => r = nI 1 ∧ PK D T dE b0 A g Y M H1)) (XX A (XN)) args s 3584 41216 A) (F0 m 141 ls []) := by
                  intro n
                  induction n with
                  | zero => intro n8 H7 locs7 hfuel; exact absurd hfuel (Nat.not_lt_zero _)
                  | succ n ih141 =>
                    intro n8 H7 locs7 hfuel hn8 hPK hS ls hl
                    have hL := hPK.sl
                    refine lv_iload hx hb dL_rows_141 (lv_at hl 0 rfl) ?_
                    refine lv_aload_n hx hb dL_rows_143 rfl (lv_at hl 8 rfl) ?_
                    refine lv_iconst (v := nI 0) hx hb dL_rows_144 (by decide) ?_
                    refine n_ld9 (i := 0) hx hb hK hL (by omega) dL_rows_145 ?_
                    refine x_top (y := (nI (rN (sR M)))) (hg0) ?_
                    refine y_icmp_ge hx hb (by omega) (by omega) (tgt := 308) dL_rows_146 (by decide) (fun c146 => ?_) (fun c146 => ?_)
                    · have hnr : n8 = rN (sR M) := by omega
                      have hcc := cnt_le (fun k => mkd (sE M) k (sT M - nI 2) 6 && mAl (sE M) k && ansQ (sQ M) q9 (mKd (sE M) k)) 32
                      have hcr := cnt_le (fun r => ansQ (sQ M) q9 (rS (sR M) r)) (rN (sR M))
                      have hl : lv_has ls 15 [(10, .int (nI n8)), (9, .int (nI (cnt (fun z => mkd (sE M) ((aP (sQ M) (sR M) q9 z).getD 0) (sT M - nI 2) 6) (aTo (sQ M) (sR M) q9 n8)))), (8, .int (nI (cnt (fun r => ansQ (sQ M) q9 (rS (sR M) r)) n8))), (7, .int (nI (aN (sQ M) (sR M) q9))), (6, .int (nI q9)), (0, .ref b0), (1, .ref (g + 1)), (2, .ref (g + 4)), (3, .ref (g + 9)), (4, .ref (g + 5)), (5, .ref (g + 3))] := by
                        have e9 : (nI (aTo (sQ M) (sR M) q9 n8)) = (nI (aN (sQ M) (sR M) q9)) := by rw [hnr]; rfl
                        first
                          | (rw [← e9]; exact hl)
                          | (rw [e9] at hl; exact hl)
                      have hl : lv_has ls 15 [(10, .int (nI n8)), (9, .int (nI (cnt (fun z => mkd (sE M) ((aP (sQ M) (sR M) q9 z).getD 0) (sT M - nI 2) 6) (aTo (sQ M) (sR M) q9 n8)))), (8, .int (nI (cnt (fun r => ansQ (sQ M) q9 (rS (sR M) r)) (rN (sR M))))), (7, .int (nI (aN (sQ M) (sR M) q9))), (6, .int (nI q9)), (0, .ref b0), (1, .ref (g + 1)), (2, .ref (g + 4)), (3, .ref (g + 9)), (4, .ref (g + 5)), (5, .ref (g + 3))] := by
                        have e9 : (nI (cnt (fun r => ansQ (sQ M) q9 (rS (sR M) r)) n8)) = (nI (cnt (fun r => ansQ (sQ M) q9 (rS (sR M) r)) (rN (sR M)))) := by rw [hnr]
                        first
                          | (rw [← e9]; exact hl)
                          | (rw [e9] at hl; exact hl)
                      have hl : lv_has ls 15 [(10, .int (nI n8)), (9, .int (nI (cnt (fun k => mkd (sE M) k (sT M - nI 2) 6 && mAl (sE M) k && ansQ (sQ M) q9 (mKd (sE M) k)) 32))), (8, .int (nI (cnt (fun r => ansQ (sQ M) q9 (rS (sR M) r)) (rN (sR M))))), (7, .int (nI (aN (sQ M) (sR M) q9))), (6, .int (nI q9)), (0, .ref b0), (1, .ref (g + 1)), (2, .ref (g + 4)), (3, .ref (g + 9)), (4, .ref (g + 5)), (5, .ref (g + 3))] := by
                        have e9 : (nI (cnt (fun z => mkd (sE M) ((aP (sQ M) (sR M) q9 z).getD 0) (sT M - nI 2) 6) (aTo (sQ M) (sR M) q9 n8))) = (nI (cnt (fun k => mkd (sE M) k (sT M - nI 2) 6 && mAl (sE M) k && ansQ (sQ M) q9 (mKd (sE M) k)) 32)) := by rw [hnr]; exact congrArg nI (chg_cnt iE iR q9 _)
                        first
                          | (rw [← e9]; exact hl)
                          | (rw [e9] at hl; exact hl)
                      have hAt : aTo (sQ M) (sR M) q9 n8 = aN (sQ M) (sR M) q9 := by rw [hnr]; rfl
                      refine lv_aload_n hx hb dL_rows_308 rfl (lv_at hl 5 rfl) ?_
                      refine lv_iload hx hb dL_rows_309 (lv_at hl 4 rfl) ?_
                      refine k_ip (k_V (As := [.int (nI q9)]) (rest := []) ⟨hx, hb, hml, hown, hts⟩ hev hS (w_answers l hst hPK hI (nI q9) (by rw [as_0 c126 hq8]; rfl)) (cwV 1 hts gL_rows_X6_answers rfl rfl rfl (by decide +kernel) ⟨Nat.le_of_ble_eq_true rfl, Nat.le_of_ble_eq_true rfl⟩) (pk_recv hK hPK) rfl hl.1 (Nat.le_of_ble_eq_true rfl) dL_rows_311 (by show _ ≤ (3584 : Nat); omega) (by show _ ≤ (41216 : Nat); omega)) hS hnt hlk (fun _ _ h _ => h.elim) (by show _ ≤ (3584 : Nat); omega) (by show _ ≤ (41216 : Nat); omega) (fun rq2_ H2 locs2 hP hz2 hS => ?_)
                      rw [as_0 c126 hq8] at hP
                      have er := hP.1
                      have hPK : PK D T dE b0 A g Y M H2 := hP.2
                      have hL := hPK.sl
                      refine x_top (y := (nI (aN (sQ M) (sR M) q9))) (er) ?_
                      refine lv_iload hx hb dL_rows_314 (lv_at hl 3 rfl) ?_
                      refine y_icmp_ne hx hb (by omega) (by omega) (tgt := 371) dL_rows_316 (by decide) (fun c316 => ?_) (fun c316 => ?_)
                      · exact absurd rfl c316
                      · refine lv_aload_n hx hb dL_rows_319 rfl (lv_at hl 5 rfl) ?_
                        refine lv_iload hx hb dL_rows_320 (lv_at hl 4 rfl) ?_
                        refine k_ip (k_V (As := [.int (nI q9)]) (rest := []) ⟨hx, hb, hml, hown, hts⟩ hev hS (w_answersOneByOne l hst hPK hI (nI q9) (by rw [ob_0 c126 hq8]; rfl)) (cwV 1 hts gL_rows_X6_answersOneByOne rfl rfl rfl (by decide +kernel) ⟨Nat.le_of_ble_eq_true rfl, Nat.le_of_ble_eq_true rfl⟩) (pk_recv hK hPK) rfl hl.1 (Nat.le_of_ble_eq_true rfl) dL_rows_322 (by show _ ≤ (3584 : Nat); omega) (by show _ ≤ (41216 : Nat); omega)) hS hnt hlk (fun _ _ h _ => h.elim) (by show _ ≤ (3584 : Nat); omega) (by show _ ≤ (41216 : Nat); omega) (fun rq3_ H3 locs3 hP hz3 hS => ?_)
                        rw [ob_0 c126 hq8] at hP
                        have er := hP.1
                        have hPK : PK D T dE b0 A g Y M H3 := hP.2
                        have hL := hPK.sl
                        refine x_top (y := (nI (aN (sQ M) (sR M) q9))) (er.trans (congrArg nI (one_cnt iE iR q9))) ?_
                        refine lv_iload hx hb dL_rows_325 (lv_at hl 3 rfl) ?_
                        refine y_icmp_ne hx hb (by omega) (by omega) (tgt := 371) dL_rows_327 (by decide) (fun c327 => ?_) (fun c327 => ?_)
                        · exact absurd rfl c327
                        · refine lv_aload_n hx hb dL_rows_330 rfl (lv_at hl 5 rfl) ?_
                          refine lv_iload hx hb dL_rows_331 (lv_at hl 4 rfl) ?_
                          refine k_ip (k_V (As := [.int (nI q9)]) (rest := []) ⟨hx, hb, hml, hown, hts⟩ hev hS (w_answeringRows l hst hPK hI (nI q9) (by rw [ar_0 c126 hq8]; rfl)) (cwV 1 hts gL_rows_X6_answeringRows rfl rfl rfl (by decide +kernel) ⟨Nat.le_of_ble_eq_true rfl, Nat.le_of_ble_eq_true rfl⟩) (pk_recv hK hPK) rfl hl.1 (Nat.le_of_ble_eq_true rfl) dL_rows_333 (by show _ ≤ (3584 : Nat); omega) (by show _ ≤ (41216 : Nat); omega)) hS hnt hlk (fun _ _ h _ => h.elim) (by show _ ≤ (3584 : Nat); omega) (by show _ ≤ (41216 : Nat); omega) (fun rq4_ H4 locs4 hP hz4 hS => ?_)
                          rw [ar_0 c126 hq8] at hP
                          have er := hP.1
                          have hPK : PK D T dE b0 A g Y M H4 := hP.2
                          have hL := hPK.sl
                          refine x_top (y := (nI (cnt (fun r => ansQ (sQ M) q9 (rS (sR M) r)) (rN (sR M))))) (er) ?_
                          refine lv_iload hx hb dL_rows_336 (lv_at hl 2 rfl) ?_
                          refine y_icmp_ne hx hb (by omega) (by omega) (tgt := 371) dL_rows_338 (by decide) (fun c338 => ?_) (fun c338 => ?_)
                          · exact absurd rfl c338
                          · refine lv_aload_n hx hb dL_rows_341 rfl (lv_at hl 5 rfl) ?_
                            refine lv_iload hx hb dL_rows_342 (lv_at hl 4 rfl) ?_
                            refine lv_aload_n hx hb dL_rows_344 rfl (lv_at hl 8 rfl) ?_
                            refine lv_iconst (v := nI 1) hx hb dL_rows_345 (by decide) ?_
                            refine n_ld9 (i := 1) hx hb hK hL (by omega) dL_rows_346 ?_
                            refine x_top (y := (sT M)) (ht) ?_
                            refine lv_iconst (v := nI 2) hx hb dL_rows_347 (by decide) ?_
                            refine lv_isub hx hb dL_rows_348 ?_
                            refine k_ip (k_V (As := [.int (nI q9), .int ((sT M) - (nI 2))]) (rest := []) ⟨hx, hb, hml, hown, hts⟩ hev hS (w_changed l hst hPK hI (nI q9) (sT M - nI 2) (by rw [ch_0 c126 hq8]; rfl)) (cwV 2 hts gL_rows_X6_changed rfl rfl rfl (by decide +kernel) ⟨Nat.le_of_ble_eq_true rfl, Nat.le_of_ble_eq_true rfl⟩) (pk_recv hK hPK) rfl hl.1 (Nat.le_of_ble_eq_true rfl) dL_rows_349 (by show _ ≤ (3584 : Nat); omega) (by show _ ≤ (41216 : Nat); omega)) hS hnt hlk (fun _ _ h _ => h.elim) (by show _ ≤ (3584 : Nat); omega) (by show _ ≤ (41216 : Nat); omega) (fun rq5_ H5 locs5 hP hz5 hS => ?_)
                            rw [ch_0 c126 hq8] at hP
                            have er := hP.1
                            have hPK : PK D T dE b0 A g Y M H5 := hP.2
                            have hL := hPK.sl
                            refine x_top (y := (nI (cnt (fun k => mkd (sE M) k (sT M - nI 2) 6 && mAl (sE M) k && ansQ (sQ M) q9 (mKd (sE M) k)) 32))) (er) ?_
                            refine lv_iload hx hb dL_rows_352 (lv_at hl 1 rfl) ?_
                            refine y_icmp_ne hx hb (by omega) (by omega) (tgt := 371) dL_rows_354 (by decide) (fun c354 => ?_) (fun c354 => ?_)
                            · exact absurd rfl c354
                            · refine lv_aload_n hx hb dL_rows_357 rfl (lv_at hl 5 rfl) ?_
                              refine lv_bipush (v := nI 8) hx hb dL_rows_358 (by decide) ?_
                              refine lv_iload hx hb dL_rows_360 (lv_at hl 4 rfl) ?_
                              refine lv_iload hx hb dL_rows_362 (lv_at hl 3 rfl) ?_
                              refine k_ip (k_SW (As := [.ref b0, .int (nI 8), .int (nI q9), .int (nI (aN (sQ M) (sR M) q9))]) (rest := []) ⟨hx, hb, hml, hown, hts⟩ hev hS (r_L8 l hst hPK hI (nI q9) (nI (aN (sQ M) (sR M) q9)) (w := 4) (by rw [aw_e (by omega) (by omega)]; show ¬ (1 : Nat) = 0; decide) (by rw [aw_e (by omega) (by omega)]; rfl)) (vx_cwSW 4 hts gL_rows_L_refused rfl rfl rfl (by decide +kernel) ⟨Nat.le_of_ble_eq_true rfl, Nat.le_of_ble_eq_true rfl⟩) rfl hl.1 (Nat.le_of_ble_eq_true rfl) dL_rows_364 (by show _ ≤ (3584 : Nat); omega) (by show _ ≤ (41216 : Nat); omega)) hS hnt hlk (fun _ _ h _ => h.elim) (by show _ ≤ (3584 : Nat); omega) (by show _ ≤ (41216 : Nat); omega) (fun rq6_ H6 locs6 hP hz6 hS => ?_)
                              have er := hP.1
                              have hPK : PK D T dE b0 A g Y M H6 := hP.2
                              have hL := hPK.sl
                              refine x_top (y := (nI 4)) (er) ?_
                              refine lv_iconst (v := nI 4) hx hb dL_rows_367 (by decide) ?_
                              refine y_icmp_eq hx hb (by decide) (by decide) (tgt := 373) dL_rows_368 (by decide) (fun c368 => ?_) (fun c368 => ?_)
                              · refine W.widen (k := 1536 + 256 * (q9 + 1)) (n := 9216 + 4000 * (q9 + 1)) (by omega) (by omega) ?_
                                refine lv_iinc (v := (nI (q9 + 1))) (lv' := [(6, .int (nI (q9 + 1))), (10, .int (nI n8)), (9, .int (nI (cnt (fun k => mkd (sE M) k (sT M - nI 2) 6 && mAl (sE M) k && ansQ (sQ M) q9 (mKd (sE M) k)) 32))), (8, .int (nI (cnt (fun r => ansQ (sQ M) q9 (rS (sR M) r)) (rN (sR M))))), (7, .int (nI (aN (sQ M) (sR M) q9))), (0, .ref b0), (1, .ref (g + 1)), (2, .ref (g + 4)), (3, .ref (g + 9)), (4, .ref (g + 5)), (5, .ref (g + 3))]) hx hb dL_rows_373 hl (k := 4) rfl (nI_inc _) (by decide) rfl (fun ls hl => ?_)
                                refine lv_goto (tgt := 121) hx hb dL_rows_376 (by decide) ?_
                                exact ih121 (q9 + 1) H6 locs6 (by omega) (by omega) hPK hS ls (lv_sub hl [0, 5, 6, 7, 8, 9, 10] rfl)
                              · exact absurd c368 (by decide)
                    · have hz32 := ok.z c146
                      have hmany := hT.2.2.many ok ha h10 c146
                      have hAle : aTo (sQ M) (sR M) q9 n8 ≤ aN (sQ M) (sR M) q9 := aTo_le2 (by omega)
                      refine lv_aload_n hx hb dL_rows_149 rfl (lv_at hl 7 rfl) ?_
                      refine lv_iload hx hb dL_rows_150 (lv_at hl 0 rfl) ?_
                      refine n_ld4 (i := n8) hx hb hK hL (by omega) dL_rows_152 ?_
                      refine x_top (y := (nI (rS (sR M) n8))) (hT.2.1.2 n8 c146) ?_
                      have hs64 := iR.1 n8 c146
                      refine lv_iload hx hb dL_rows_153 (lv_at hl 4 rfl) ?_
                      refine lv_aload hx hb dL_rows_155 (lv_at hl 9 rfl) ?_
                      refine k_ip (k_S (As := [.int (nI (rS (sR M) n8)), .int (nI q9), .ref (g + 5)]) (rest := []) ⟨hx, hb, hml, hown, hts⟩ hev hS (c_L_answers l hL hQ iQ hs64 c126) (va_cwS 3 hts gL_rows_L_answers rfl rfl rfl (by decide +kernel) ⟨Nat.le_of_ble_eq_true rfl, Nat.le_of_ble_eq_true rfl⟩) rfl hl.1 (Nat.le_of_ble_eq_true rfl) dL_rows_157 (by show _ ≤ (3584 : Nat); omega) (by show _ ≤ (41216 : Nat); omega)) hS hnt hlk (fun _ _ h _ => h.elim) (by show _ ≤ (3584 : Nat); omega) (by show _ ≤ (41216 : Nat); omega) (fun rq7_ H7 locs7 hP hz7 hS => ?_)
                      refine W.widen (k := 1536 + 256 * q9 + 7 * aTo (sQ M) (sR M) q9 n8) (n := 9216 + 4000 * q9 + 95 * aTo (sQ M) (sR M) q9 n8) (Nat.le_refl _) (Nat.le_refl _) ?_
                      have hPK : PK D T dE b0 A g Y M H7 := by rw [hP.1]; exact hPK
                      have hL := hPK.sl
                      have er := hP.2
                      refine x_top (y := (bI (ansQ (sQ M) q9 (rS (sR M) n8)))) (er) ?_
                      refine y_bif_ne hx hb (tgt := 166) dL_rows_160 (by decide) (fun c160 => ?_) (fun c160 => ?_)
                      · have hans := c160
                        have hAt1 : aTo (sQ M) (sR M) q9 n8 + rZ (sR M) n8 ≤ aN (sQ M) (sR M) q9 := by rw [← aTo_t hans]; exact aTo_le2 (by omega)
                        refine lv_iinc (v := (nI (cnt (fun r => ansQ (sQ M) q9 (rS (sR M) r)) n8 + 1))) (lv' := [(8, .int (nI (cnt (fun r => ansQ (sQ M) q9 (rS (sR M) r)) n8 + 1))), (10, .int (nI n8)), (9, .int (nI (cnt (fun z => mkd (sE M) ((aP (sQ M) (sR M) q9 z).getD 0) (sT M - nI 2) 6) (aTo (sQ M) (sR M) q9 n8)))), (7, .int (nI (aTo (sQ M) (sR M) q9 n8))), (6, .int (nI q9)), (0, .ref b0), (1, .ref (g + 1)), (2, .ref (g + 4)), (3, .ref (g + 9)), (4, .ref (g + 5)), (5, .ref (g + 3))]) hx hb dL_rows_166 hl (k := 2) rfl (nI_inc _) (by decide) rfl (fun ls hl => ?_)
                        refine lv_iconst (v := nI 0) hx hb dL_rows_169 (by decide) ?_
                        refine W.widen (k := 1536 + 256 * q9 + 7 * (aTo (sQ M) (sR M) q9 n8 + 0)) (n := 9216 + 4000 * q9 + 95 * (aTo (sQ M) (sR M) q9 n8 + 0)) (by omega) (by omega) ?_
                        refine lv_istore (lv' := [(11, .int (nI 0)), (8, .int (nI (cnt (fun r => ansQ (sQ M) q9 (rS (sR M) r)) n8 + 1))), (10, .int (nI n8)), (9, .int (nI (cnt (fun z => mkd (sE M) ((aP (sQ M) (sR M) q9 z).getD 0) (sT M - nI 2) 6) (aTo (sQ M) (sR M) q9 n8)))), (7, .int (nI (aTo (sQ M) (sR M) q9 n8))), (6, .int (nI q9)), (0, .ref b0), (1, .ref (g + 1)), (2, .ref (g + 4)), (3, .ref (g + 9)), (4, .ref (g + 5)), (5, .ref (g + 3))]) hx hb dL_rows_170 hl (by decide) rfl (fun ls hl => ?_)
                        have loop172 : ∀ (n : Nat) (p9 : Nat) (H6 : Heap) (locs6 : List Loc), rZ (sR M) n8 - p9 < n → (p9 ≤ rZ (sR M) n8) → (PK D T dE b0 A g Y M H6) → (va_S A s.heap H6 locs6) → ∀ (ls : Array Slot), lv_has ls 15 [(11, .int (nI p9)), (10, .int (nI n8)), (9, .int (nI (cnt (fun z => mkd (sE M) ((aP (sQ M) (sR M) q9 z).getD 0) (sT M - nI 2) 6) (aTo (sQ M) (sR M) q9 n8 + p9)))), (8, .int (nI (cnt (fun r => ansQ (sQ M) q9 (rS (sR M) r)) n8 + 1))), (7, .int (nI (aTo (sQ M) (sR M) q9 n8 + p9))), (6, .int (nI q9)), (0, .ref b0), (1, .ref (g + 1)), (2, .ref (g + 4)), (3, .ref (g + 9)), (4, .ref (g + 5)), (5, .ref (g + 3))] → W p l e (rmL 12 3584 41216) s m args below meth c H6 locs6 (1536 + 256 * q9 + 7 * (aTo (sQ M) (sR M) q9 n8 + p9)) (9216 + 4000 * q9 + 95 * (aTo (sQ M) (sR M) q9 n8 + p9)) (vx_MQ below (QI A (fun r H1 => r = nI 1 ∧ PK D T dE b0 A g Y M H1)) (XX A (XN)) args s 3584 41216 A) (F0 m 172 ls []) := by
                          intro n
                          induction n with
                          | zero => intro p9 H6 locs6 hfuel; exact absurd hfuel (Nat.not_lt_zero _)
                          | succ n ih172 =>
                            intro p9 H6 locs6 hfuel hp9 hPK hS ls hl
                            have hL := hPK.sl
                            refine lv_iload hx hb dL_rows_172 (lv_at hl 0 rfl) ?_
                            refine lv_iload hx hb dL_rows_174 (lv_at hl 1 rfl) ?_
                            refine lv_aload_n hx hb dL_rows_176 rfl (lv_at hl 7 rfl) ?_
                            refine k_ip (k_S (As := [.int (nI n8), .ref (g + 1)]) (rest := [.int (nI p9)]) ⟨hx, hb, hml, hown, hts⟩ hev hS (c_L_many l hL (nI n8)) (va_cwS 2 hts gL_rows_L_many rfl rfl rfl (by decide +kernel) ⟨Nat.le_of_ble_eq_true rfl, Nat.le_of_ble_eq_true rfl⟩) rfl hl.1 (Nat.le_of_ble_eq_true rfl) dL_rows_177 (by show _ ≤ (3584 : Nat); omega) (by show _ ≤ (41216 : Nat); omega)) hS hnt hlk (fun _ _ h _ => h.elim) (by show _ ≤ (3584 : Nat); omega) (by show _ ≤ (41216 : Nat); omega) (fun rq8_ H8 locs8 hP hz8 hS => ?_)
                            refine W.widen (k := 1536 + 256 * q9 + 7 * (aTo (sQ M) (sR M) q9 n8 + p9)) (n := 9216 + 4000 * q9 + 95 * (aTo (sQ M) (sR M) q9 n8 + p9)) (Nat.le_refl _) (Nat.le_refl _) ?_
                            have hPK : PK D T dE b0 A g Y M H8 := by rw [hP.1]; exact hPK
                            have hL := hPK.sl
                            have er := hP.2
                            refine x_top (y := (nI (rZ (sR M) n8))) (by rw [er]; exact congrArg nI hmany) ?_
                            refine y_icmp_ge hx hb (by omega) (by omega) (tgt := 302) dL_rows_180 (by decide) (fun c180 => ?_) (fun c180 => ?_)
                            · have ea := aTo_t (Q := sQ M) hans
                              have hpz : p9 = rZ (sR M) n8 := by omega
                              have hl : lv_has ls 15 [(11, .int (nI p9)), (10, .int (nI n8)), (9, .int (nI (cnt (fun z => mkd (sE M) ((aP (sQ M) (sR M) q9 z).getD 0) (sT M - nI 2) 6) (aTo (sQ M) (sR M) q9 n8 + p9)))), (8, .int (nI (cnt (fun r => ansQ (sQ M) q9 (rS (sR M) r)) n8 + 1))), (7, .int (nI (aTo (sQ M) (sR M) q9 (n8 + 1)))), (6, .int (nI q9)), (0, .ref b0), (1, .ref (g + 1)), (2, .ref (g + 4)), (3, .ref (g + 9)), (4, .ref (g + 5)), (5, .ref (g + 3))] := by
                                have e9 : (nI (aTo (sQ M) (sR M) q9 n8 + p9)) = (nI (aTo (sQ M) (sR M) q9 (n8 + 1))) := by rw [ea, hpz]
                                first
                                  | (rw [← e9]; exact hl)
                                  | (rw [e9] at hl; exact hl)
                              have hl : lv_has ls 15 [(11, .int (nI p9)), (10, .int (nI n8)), (9, .int (nI (cnt (fun z => mkd (sE M) ((aP (sQ M) (sR M) q9 z).getD 0) (sT M - nI 2) 6) (aTo (sQ M) (sR M) q9 (n8 + 1))))), (8, .int (nI (cnt (fun r => ansQ (sQ M) q9 (rS (sR M) r)) n8 + 1))), (7, .int (nI (aTo (sQ M) (sR M) q9 (n8 + 1)))), (6, .int (nI q9)), (0, .ref b0), (1, .ref (g + 1)), (2, .ref (g + 4)), (3, .ref (g + 9)), (4, .ref (g + 5)), (5, .ref (g + 3))] := by
                                have e9 : (nI (cnt (fun z => mkd (sE M) ((aP (sQ M) (sR M) q9 z).getD 0) (sT M - nI 2) 6) (aTo (sQ M) (sR M) q9 n8 + p9))) = (nI (cnt (fun z => mkd (sE M) ((aP (sQ M) (sR M) q9 z).getD 0) (sT M - nI 2) 6) (aTo (sQ M) (sR M) q9 (n8 + 1)))) := by rw [ea, hpz]
                                first
                                  | (rw [← e9]; exact hl)
                                  | (rw [e9] at hl; exact hl)
                              have hl : lv_has ls 15 [(11, .int (nI p9)), (10, .int (nI n8)), (9, .int (nI (cnt (fun z => mkd (sE M) ((aP (sQ M) (sR M) q9 z).getD 0) (sT M - nI 2) 6) (aTo (sQ M) (sR M) q9 (n8 + 1))))), (8, .int (nI (cnt (fun r => ansQ (sQ M) q9 (rS (sR M) r)) (n8 + 1)))), (7, .int (nI (aTo (sQ M) (sR M) q9 (n8 + 1)))), (6, .int (nI q9)), (0, .ref b0), (1, .ref (g + 1)), (2, .ref (g + 4)), (3, .ref (g + 9)), (4, .ref (g + 5)), (5, .ref (g + 3))] := by
                                have e9 : (nI (cnt (fun r => ansQ (sQ M) q9 (rS (sR M) r)) n8 + 1)) = (nI (cnt (fun r => ansQ (sQ M) q9 (rS (sR M) r)) (n8 + 1))) := congrArg nI (cnt_t (f := fun r => ansQ (sQ M) q9 (rS (sR M) r)) hans).symm
                                first
                                  | (rw [← e9]; exact hl)
                                  | (rw [e9] at hl; exact hl)
                              refine W.widen (k := 1536 + 256 * q9 + 7 * aTo (sQ M) (sR M) q9 (n8 + 1)) (n := 9216 + 4000 * q9 + 95 * aTo (sQ M) (sR M) q9 (n8 + 1)) (by omega) (by omega) ?_
                              refine lv_iinc (v := (nI (n8 + 1))) (lv' := [(10, .int (nI (n8 + 1))), (11, .int (nI p9)), (9, .int (nI (cnt (fun z => mkd (sE M) ((aP (sQ M) (sR M) q9 z).getD 0) (sT M - nI 2) 6) (aTo (sQ M) (sR M) q9 (n8 + 1))))), (8, .int (nI (cnt (fun r => ansQ (sQ M) q9 (rS (sR M) r)) (n8 + 1)))), (7, .int (nI (aTo (sQ M) (sR M) q9 (n8 + 1)))), (6, .int (nI q9)), (0, .ref b0), (1, .ref (g + 1)), (2, .ref (g + 4)), (3, .ref (g + 9)), (4, .ref (g + 5)), (5, .ref (g + 3))]) hx hb dL_rows_302 hl (k := 1) rfl (nI_inc _) (by decide) rfl (fun ls hl => ?_)
                              refine lv_goto (tgt := 141) hx hb dL_rows_305 (by decide) ?_
                              exact ih141 (n8 + 1) H8 locs8 (by omega) (by omega) hPK hS ls (lv_sub hl [0, 2, 3, 4, 5, 6, 7, 8, 9, 10, 11] rfl)
                            · have hkal := hT.2.2.2.1 n8 p9 c146 c180
                              have hk10 := h10 _ hkal
                              have hk64 := iE.1 (rM (sR M) n8 p9)
                              have haP := aP_at (Q := sQ M) c146 hans c180
                              refine lv_iload hx hb dL_rows_183 (lv_at hl 1 rfl) ?_
                              refine lv_iload hx hb dL_rows_185 (lv_at hl 0 rfl) ?_
                              refine lv_aload_n hx hb dL_rows_187 rfl (lv_at hl 7 rfl) ?_
                              refine k_ip (k_S (As := [.int (nI n8), .int (nI p9), .ref (g + 1)]) (rest := []) ⟨hx, hb, hml, hown, hts⟩ hev hS (c_L_at l hL (nI n8) (nI p9)) (va_cwS 3 hts gL_rows_L_at rfl rfl rfl (by decide +kernel) ⟨Nat.le_of_ble_eq_true rfl, Nat.le_of_ble_eq_true rfl⟩) rfl hl.1 (Nat.le_of_ble_eq_true rfl) dL_rows_188 (by show _ ≤ (3584 : Nat); omega) (by show _ ≤ (41216 : Nat); omega)) hS hnt hlk (fun _ _ h _ => h.elim) (by show _ ≤ (3584 : Nat); omega) (by show _ ≤ (41216 : Nat); omega) (fun rq9_ H9 locs9 hP hz9 hS => ?_)
                              refine W.widen (k := 1536 + 256 * q9 + 7 * (aTo (sQ M) (sR M) q9 n8 + p9)) (n := 9216 + 4000 * q9 + 95 * (aTo (sQ M) (sR M) q9 n8 + p9)) (Nat.le_refl _) (Nat.le_refl _) ?_
                              have hPK : PK D T dE b0 A g Y M H9 := by rw [hP.1]; exact hPK
                              have hL := hPK.sl
                              obtain ⟨-, o9, eo, ho⟩ := hP
                              refine x_top (y := (nI (rM (sR M) n8 p9))) (by rw [eo, hT.2.2.at ok ha h10 c146 c180 ho]; rfl) ?_
                              refine lv_istore (lv' := [(12, .int (nI (rM (sR M) n8 p9))), (11, .int (nI p9)), (10, .int (nI n8)), (9, .int (nI (cnt (fun z => mkd (sE M) ((aP (sQ M) (sR M) q9 z).getD 0) (sT M - nI 2) 6) (aTo (sQ M) (sR M) q9 n8 + p9)))), (8, .int (nI (cnt (fun r => ansQ (sQ M) q9 (rS (sR M) r)) n8 + 1))), (7, .int (nI (aTo (sQ M) (sR M) q9 n8 + p9))), (6, .int (nI q9)), (0, .ref b0), (1, .ref (g + 1)), (2, .ref (g + 4)), (3, .ref (g + 9)), (4, .ref (g + 5)), (5, .ref (g + 3))]) hx hb dL_rows_191 hl (by decide) rfl (fun ls hl => ?_)
                              refine lv_iconst (v := nI 0) hx hb dL_rows_193 (by decide) ?_
                              refine lv_istore (lv' := [(13, .int (nI 0)), (12, .int (nI (rM (sR M) n8 p9))), (11, .int (nI p9)), (10, .int (nI n8)), (9, .int (nI (cnt (fun z => mkd (sE M) ((aP (sQ M) (sR M) q9 z).getD 0) (sT M - nI 2) 6) (aTo (sQ M) (sR M) q9 n8 + p9)))), (8, .int (nI (cnt (fun r => ansQ (sQ M) q9 (rS (sR M) r)) n8 + 1))), (7, .int (nI (aTo (sQ M) (sR M) q9 n8 + p9))), (6, .int (nI q9)), (0, .ref b0), (1, .ref (g + 1)), (2, .ref (g + 4)), (3, .ref (g + 9)), (4, .ref (g + 5)), (5, .ref (g + 3))]) hx hb dL_rows_194 hl (by decide) rfl (fun ls hl => ?_)
                              refine lv_iconst (v := nI 0) hx hb dL_rows_196 (by decide) ?_
                              refine lv_istore (lv' := [(14, .int (nI 0)), (13, .int (nI 0)), (12, .int (nI (rM (sR M) n8 p9))), (11, .int (nI p9)), (10, .int (nI n8)), (9, .int (nI (cnt (fun z => mkd (sE M) ((aP (sQ M) (sR M) q9 z).getD 0) (sT M - nI 2) 6) (aTo (sQ M) (sR M) q9 n8 + p9)))), (8, .int (nI (cnt (fun r => ansQ (sQ M) q9 (rS (sR M) r)) n8 + 1))), (7, .int (nI (aTo (sQ M) (sR M) q9 n8 + p9))), (6, .int (nI q9)), (0, .ref b0), (1, .ref (g + 1)), (2, .ref (g + 4)), (3, .ref (g + 9)), (4, .ref (g + 5)), (5, .ref (g + 3))]) hx hb dL_rows_197 hl (by decide) rfl (fun ls hl => ?_)
                              have loop199 : ∀ (n : Nat) (i5 : Nat), 6 - i5 < n → (i5 ≤ 6) → ∀ (ls : Array Slot), lv_has ls 15 [(14, .int (nI i5)), (13, .int (bI (mkd (sE M) (rM (sR M) n8 p9) (sT M - nI 2) i5))), (12, .int (nI (rM (sR M) n8 p9))), (11, .int (nI p9)), (10, .int (nI n8)), (9, .int (nI (cnt (fun z => mkd (sE M) ((aP (sQ M) (sR M) q9 z).getD 0) (sT M - nI 2) 6) (aTo (sQ M) (sR M) q9 n8 + p9)))), (8, .int (nI (cnt (fun r => ansQ (sQ M) q9 (rS (sR M) r)) n8 + 1))), (7, .int (nI (aTo (sQ M) (sR M) q9 n8 + p9))), (6, .int (nI q9)), (0, .ref b0), (1, .ref (g + 1)), (2, .ref (g + 4)), (3, .ref (g + 9)), (4, .ref (g + 5)), (5, .ref (g + 3))] → W p l e (rmL 12 3584 41216) s m args below meth c H9 locs9 (1536 + 256 * q9 + 7 * (aTo (sQ M) (sR M) q9 n8 + p9)) (9216 + 4000 * q9 + 95 * (aTo (sQ M) (sR M) q9 n8 + p9)) (vx_MQ below (QI A (fun r H1 => r = nI 1 ∧ PK D T dE b0 A g Y M H1)) (XX A (XN)) args s 3584 41216 A) (F0 m 199 ls []) := by
                                intro n
                                induction n with
                                | zero => intro i5 hfuel; exact absurd hfuel (Nat.not_lt_zero _)
                                | succ n ih199 =>
                                  intro i5 hfuel hi5 ls hl
                                  refine lv_iload hx hb dL_rows_199 (lv_at hl 0 rfl) ?_
                                  refine lv_bipush (v := nI 6) hx hb dL_rows_201 (by decide) ?_
                                  refine y_icmp_ge hx hb (by omega) (Nat.le_of_ble_eq_true rfl) (tgt := 259) dL_rows_203 (by decide) (fun c203 => ?_) (fun c203 => ?_)
                                  · have h56 : i5 = 6 := by omega
                                    refine lv_iload hx hb dL_rows_259 (lv_at hl 5 rfl) ?_
                                    refine lv_iload hx hb dL_rows_261 (lv_at hl 1 rfl) ?_
                                    refine y_bif_eq hx hb (tgt := 270) dL_rows_263 (by decide) (fun c263 => ?_) (fun c263 => ?_)
                                    · refine lv_iconst (v := nI 0) hx hb dL_rows_270 (by decide) ?_
                                      refine y_iadd hx hb dL_rows_271 ?_
                                      refine lv_istore (lv' := [(9, .int (nI ((cnt (fun z => mkd (sE M) ((aP (sQ M) (sR M) q9 z).getD 0) (sT M - nI 2) 6) (aTo (sQ M) (sR M) q9 n8 + p9)) + 0))), (14, .int (nI i5)), (13, .int (bI (mkd (sE M) (rM (sR M) n8 p9) (sT M - nI 2) i5))), (12, .int (nI (rM (sR M) n8 p9))), (11, .int (nI p9)), (10, .int (nI n8)), (8, .int (nI (cnt (fun r => ansQ (sQ M) q9 (rS (sR M) r)) n8 + 1))), (7, .int (nI (aTo (sQ M) (sR M) q9 n8 + p9))), (6, .int (nI q9)), (0, .ref b0), (1, .ref (g + 1)), (2, .ref (g + 4)), (3, .ref (g + 9)), (4, .ref (g + 5)), (5, .ref (g + 3))]) hx hb dL_rows_272 hl (by decide) rfl (fun ls hl => ?_)
                                      have hl : lv_has ls 15 [(9, .int (nI (cnt (fun z => mkd (sE M) ((aP (sQ M) (sR M) q9 z).getD 0) (sT M - nI 2) 6) (aTo (sQ M) (sR M) q9 n8 + p9 + 1)))), (14, .int (nI i5)), (13, .int (bI (mkd (sE M) (rM (sR M) n8 p9) (sT M - nI 2) i5))), (12, .int (nI (rM (sR M) n8 p9))), (11, .int (nI p9)), (10, .int (nI n8)), (8, .int (nI (cnt (fun r => ansQ (sQ M) q9 (rS (sR M) r)) n8 + 1))), (7, .int (nI (aTo (sQ M) (sR M) q9 n8 + p9))), (6, .int (nI q9)), (0, .ref b0), (1, .ref (g + 1)), (2, .ref (g + 4)), (3, .ref (g + 9)), (4, .ref (g + 5)), (5, .ref (g + 3))] := by
                                        have e9 : (nI ((cnt (fun z => mkd (sE M) ((aP (sQ M) (sR M) q9 z).getD 0) (sT M - nI 2) 6) (aTo (sQ M) (sR M) q9 n8 + p9)) + 0)) = (nI (cnt (fun z => mkd (sE M) ((aP (sQ M) (sR M) q9 z).getD 0) (sT M - nI 2) 6) (aTo (sQ M) (sR M) q9 n8 + p9 + 1))) := congrArg nI (cnt_f (f := fun z => mkd (sE M) ((aP (sQ M) (sR M) q9 z).getD 0) (sT M - nI 2) 6) (show mkd (sE M) ((aP (sQ M) (sR M) q9 (aTo (sQ M) (sR M) q9 n8 + p9)).getD 0) (sT M - nI 2) 6 = false by rw [haP.2, ← h56]; exact c263)).symm
                                        first
                                          | (rw [← e9]; exact hl)
                                          | (rw [e9] at hl; exact hl)
                                      refine lv_aload_n hx hb dL_rows_274 rfl (lv_at hl 9 rfl) ?_
                                      refine lv_iload hx hb dL_rows_275 (lv_at hl 8 rfl) ?_
                                      refine lv_iload hx hb dL_rows_277 (lv_at hl 7 rfl) ?_
                                      refine k_ip (k_V (As := [.int (nI q9), .int (nI (aTo (sQ M) (sR M) q9 n8 + p9))]) (rest := []) ⟨hx, hb, hml, hown, hts⟩ hev hS (w_answer l hst hPK hI (nI q9) (nI (aTo (sQ M) (sR M) q9 n8 + p9)) (by rw [aw_0 c126 hq8 haP.1 hA32]; rfl)) (cwV 2 hts gL_rows_X6_answer rfl rfl rfl (by decide +kernel) ⟨Nat.le_of_ble_eq_true rfl, Nat.le_of_ble_eq_true rfl⟩) (pk_recv hK hPK) rfl hl.1 (Nat.le_of_ble_eq_true rfl) dL_rows_279 (by show _ ≤ (3584 : Nat); omega) (by show _ ≤ (41216 : Nat); omega)) hS hnt hlk (fun _ _ h _ => h.elim) (by show _ ≤ (3584 : Nat); omega) (by show _ ≤ (41216 : Nat); omega) (fun rq10_ H10 locs10 hP hz10 hS => ?_)
                                      rw [aw_0 c126 hq8 haP.1 hA32] at hP
                                      have er := hP.1
                                      have hPK : PK D T dE b0 A g Y M H10 := hP.2
                                      have hL := hPK.sl
                                      refine x_top (y := (handle (sE M) (rM (sR M) n8 p9))) (by rw [er]; obtain ⟨k0, e0, -⟩ := aP_al iR haP.1; have h2 := haP.2; show hdlO _ (aP _ _ _ _) = _; rw [e0] at h2 ⊢; rw [← h2]; rfl) ?_
                                      refine lv_iload hx hb dL_rows_282 (lv_at hl 3 rfl) ?_
                                      refine lv_aload_n hx hb dL_rows_284 rfl (lv_at hl 10 rfl) ?_
                                      refine k_ip (k_S (As := [.int (nI (rM (sR M) n8 p9)), .ref (g + 1)]) (rest := [.int (handle (sE M) (rM (sR M) n8 p9))]) ⟨hx, hb, hml, hown, hts⟩ hev hS (c_L_handle l hL hT.1 hk10) (va_cwS 2 hts gL_rows_L_handle rfl rfl rfl (by decide +kernel) ⟨Nat.le_of_ble_eq_true rfl, Nat.le_of_ble_eq_true rfl⟩) rfl hl.1 (Nat.le_of_ble_eq_true rfl) dL_rows_285 (by show _ ≤ (3584 : Nat); omega) (by show _ ≤ (41216 : Nat); omega)) hS hnt hlk (fun _ _ h _ => h.elim) (by show _ ≤ (3584 : Nat); omega) (by show _ ≤ (41216 : Nat); omega) (fun rq11_ H11 locs11 hP hz11 hS => ?_)
                                      refine W.widen (k := 1536 + 256 * q9 + 7 * (aTo (sQ M) (sR M) q9 n8 + p9) + 7) (n := 9216 + 4000 * q9 + 95 * (aTo (sQ M) (sR M) q9 n8 + p9) + 95) (Nat.le_refl _) (Nat.le_refl _) ?_
                                      have hPK : PK D T dE b0 A g Y M H11 := by rw [hP.1]; exact hPK
                                      have hL := hPK.sl
                                      have er := hP.2
                                      refine x_top (y := (handle (sE M) (rM (sR M) n8 p9))) (er) ?_
                                      refine lv_icmp_eq (tgt := 293) hx hb dL_rows_288 (by decide) (fun c288 => ?_) (fun c288 => ?_)
                                      · refine W.widen (k := 1536 + 256 * q9 + 7 * (aTo (sQ M) (sR M) q9 n8 + (p9 + 1))) (n := 9216 + 4000 * q9 + 95 * (aTo (sQ M) (sR M) q9 n8 + (p9 + 1))) (by omega) (by omega) ?_
                                        refine lv_iinc (v := (nI (aTo (sQ M) (sR M) q9 n8 + p9 + 1))) (lv' := [(7, .int (nI (aTo (sQ M) (sR M) q9 n8 + p9 + 1))), (9, .int (nI (cnt (fun z => mkd (sE M) ((aP (sQ M) (sR M) q9 z).getD 0) (sT M - nI 2) 6) (aTo (sQ M) (sR M) q9 n8 + p9 + 1)))), (14, .int (nI i5)), (13, .int (bI (mkd (sE M) (rM (sR M) n8 p9) (sT M - nI 2) i5))), (12, .int (nI (rM (sR M) n8 p9))), (11, .int (nI p9)), (10, .int (nI n8)), (8, .int (nI (cnt (fun r => ansQ (sQ M) q9 (rS (sR M) r)) n8 + 1))), (6, .int (nI q9)), (0, .ref b0), (1, .ref (g + 1)), (2, .ref (g + 4)), (3, .ref (g + 9)), (4, .ref (g + 5)), (5, .ref (g + 3))]) hx hb dL_rows_293 hl (k := 7) rfl (nI_inc _) (by decide) rfl (fun ls hl => ?_)
                                        refine lv_iinc (v := (nI (p9 + 1))) (lv' := [(11, .int (nI (p9 + 1))), (7, .int (nI (aTo (sQ M) (sR M) q9 n8 + p9 + 1))), (9, .int (nI (cnt (fun z => mkd (sE M) ((aP (sQ M) (sR M) q9 z).getD 0) (sT M - nI 2) 6) (aTo (sQ M) (sR M) q9 n8 + p9 + 1)))), (14, .int (nI i5)), (13, .int (bI (mkd (sE M) (rM (sR M) n8 p9) (sT M - nI 2) i5))), (12, .int (nI (rM (sR M) n8 p9))), (10, .int (nI n8)), (8, .int (nI (cnt (fun r => ansQ (sQ M) q9 (rS (sR M) r)) n8 + 1))), (6, .int (nI q9)), (0, .ref b0), (1, .ref (g + 1)), (2, .ref (g + 4)), (3, .ref (g + 9)), (4, .ref (g + 5)), (5, .ref (g + 3))]) hx hb dL_rows_296 hl (k := 5) rfl (nI_inc _) (by decide) rfl (fun ls hl => ?_)
                                        refine lv_goto (tgt := 172) hx hb dL_rows_299 (by decide) ?_
                                        exact ih172 (p9 + 1) H11 locs11 (by omega) (by omega) hPK hS ls (lv_sub hl [0, 6, 2, 7, 1, 8, 9, 10, 11, 12, 13, 14] rfl)
                                      · exact absurd rfl c288
                                    · refine lv_iconst (v := nI 1) hx hb dL_rows_266 (by decide) ?_
                                      refine lv_goto (tgt := 271) hx hb dL_rows_267 (by decide) ?_
                                      refine y_iadd hx hb dL_rows_271 ?_
                                      refine lv_istore (lv' := [(9, .int (nI ((cnt (fun z => mkd (sE M) ((aP (sQ M) (sR M) q9 z).getD 0) (sT M - nI 2) 6) (aTo (sQ M) (sR M) q9 n8 + p9)) + 1))), (14, .int (nI i5)), (13, .int (bI (mkd (sE M) (rM (sR M) n8 p9) (sT M - nI 2) i5))), (12, .int (nI (rM (sR M) n8 p9))), (11, .int (nI p9)), (10, .int (nI n8)), (8, .int (nI (cnt (fun r => ansQ (sQ M) q9 (rS (sR M) r)) n8 + 1))), (7, .int (nI (aTo (sQ M) (sR M) q9 n8 + p9))), (6, .int (nI q9)), (0, .ref b0), (1, .ref (g + 1)), (2, .ref (g + 4)), (3, .ref (g + 9)), (4, .ref (g + 5)), (5, .ref (g + 3))]) hx hb dL_rows_272 hl (by decide) rfl (fun ls hl => ?_)
                                      have hl : lv_has ls 15 [(9, .int (nI (cnt (fun z => mkd (sE M) ((aP (sQ M) (sR M) q9 z).getD 0) (sT M - nI 2) 6) (aTo (sQ M) (sR M) q9 n8 + p9 + 1)))), (14, .int (nI i5)), (13, .int (bI (mkd (sE M) (rM (sR M) n8 p9) (sT M - nI 2) i5))), (12, .int (nI (rM (sR M) n8 p9))), (11, .int (nI p9)), (10, .int (nI n8)), (8, .int (nI (cnt (fun r => ansQ (sQ M) q9 (rS (sR M) r)) n8 + 1))), (7, .int (nI (aTo (sQ M) (sR M) q9 n8 + p9))), (6, .int (nI q9)), (0, .ref b0), (1, .ref (g + 1)), (2, .ref (g + 4)), (3, .ref (g + 9)), (4, .ref (g + 5)), (5, .ref (g + 3))] := by
                                        have e9 : (nI ((cnt (fun z => mkd (sE M) ((aP (sQ M) (sR M) q9 z).getD 0) (sT M - nI 2) 6) (aTo (sQ M) (sR M) q9 n8 + p9)) + 1)) = (nI (cnt (fun z => mkd (sE M) ((aP (sQ M) (sR M) q9 z).getD 0) (sT M - nI 2) 6) (aTo (sQ M) (sR M) q9 n8 + p9 + 1))) := congrArg nI (cnt_t (f := fun z => mkd (sE M) ((aP (sQ M) (sR M) q9 z).getD 0) (sT M - nI 2) 6) (show mkd (sE M) ((aP (sQ M) (sR M) q9 (aTo (sQ M) (sR M) q9 n8 + p9)).getD 0) (sT M - nI 2) 6 = true by rw [haP.2, ← h56]; exact c263)).symm
                                        first
                                          | (rw [← e9]; exact hl)
                                          | (rw [e9] at hl; exact hl)
                                      refine lv_aload_n hx hb dL_rows_274 rfl (lv_at hl 9 rfl) ?_
                                      refine lv_iload hx hb dL_rows_275 (lv_at hl 8 rfl) ?_
                                      refine lv_iload hx hb dL_rows_277 (lv_at hl 7 rfl) ?_
                                      refine k_ip (k_V (As := [.int (nI q9), .int (nI (aTo (sQ M) (sR M) q9 n8 + p9))]) (rest := []) ⟨hx, hb, hml, hown, hts⟩ hev hS (w_answer l hst hPK hI (nI q9) (nI (aTo (sQ M) (sR M) q9 n8 + p9)) (by rw [aw_0 c126 hq8 haP.1 hA32]; rfl)) (cwV 2 hts gL_rows_X6_answer rfl rfl rfl (by decide +kernel) ⟨Nat.le_of_ble_eq_true rfl, Nat.le_of_ble_eq_true rfl⟩) (pk_recv hK hPK) rfl hl.1 (Nat.le_of_ble_eq_true rfl) dL_rows_279 (by show _ ≤ (3584 : Nat); omega) (by show _ ≤ (41216 : Nat); omega)) hS hnt hlk (fun _ _ h _ => h.elim) (by show _ ≤ (3584 : Nat); omega) (by show _ ≤ (41216 : Nat); omega) (fun rq12_ H12 locs12 hP hz12 hS => ?_)
                                      rw [aw_0 c126 hq8 haP.1 hA32] at hP
                                      have er := hP.1
                                      have hPK : PK D T dE b0 A g Y M H12 := hP.2
                                      have hL := hPK.sl
                                      refine x_top (y := (handle (sE M) (rM (sR M) n8 p9))) (by rw [er]; obtain ⟨k0, e0, -⟩ := aP_al iR haP.1; have h2 := haP.2; show hdlO _ (aP _ _ _ _) = _; rw [e0] at h2 ⊢; rw [← h2]; rfl) ?_
                                      refine lv_iload hx hb dL_rows_282 (lv_at hl 3 rfl) ?_
                                      refine lv_aload_n hx hb dL_rows_284 rfl (lv_at hl 10 rfl) ?_
                                      refine k_ip (k_S (As := [.int (nI (rM (sR M) n8 p9)), .ref (g + 1)]) (rest := [.int (handle (sE M) (rM (sR M) n8 p9))]) ⟨hx, hb, hml, hown, hts⟩ hev hS (c_L_handle l hL hT.1 hk10) (va_cwS 2 hts gL_rows_L_handle rfl rfl rfl (by decide +kernel) ⟨Nat.le_of_ble_eq_true rfl, Nat.le_of_ble_eq_true rfl⟩) rfl hl.1 (Nat.le_of_ble_eq_true rfl) dL_rows_285 (by show _ ≤ (3584 : Nat); omega) (by show _ ≤ (41216 : Nat); omega)) hS hnt hlk (fun _ _ h _ => h.elim) (by show _ ≤ (3584 : Nat); omega) (by show _ ≤ (41216 : Nat); omega) (fun rq13_ H13 locs13 hP hz13 hS => ?_)
                                      refine W.widen (k := 1536 + 256 * q9 + 7 * (aTo (sQ M) (sR M) q9 n8 + p9) + 7) (n := 9216 + 4000 * q9 + 95 * (aTo (sQ M) (sR M) q9 n8 + p9) + 95) (Nat.le_refl _) (Nat.le_refl _) ?_
                                      have hPK : PK D T dE b0 A g Y M H13 := by rw [hP.1]; exact hPK
                                      have hL := hPK.sl
                                      have er := hP.2
                                      refine x_top (y := (handle (sE M) (rM (sR M) n8 p9))) (er) ?_
                                      refine lv_icmp_eq (tgt := 293) hx hb dL_rows_288 (by decide) (fun c288 => ?_) (fun c288 => ?_)
                                      · refine W.widen (k := 1536 + 256 * q9 + 7 * (aTo (sQ M) (sR M) q9 n8 + (p9 + 1))) (n := 9216 + 4000 * q9 + 95 * (aTo (sQ M) (sR M) q9 n8 + (p9 + 1))) (by omega) (by omega) ?_
                                        refine lv_iinc (v := (nI (aTo (sQ M) (sR M) q9 n8 + p9 + 1))) (lv' := [(7, .int (nI (aTo (sQ M) (sR M) q9 n8 + p9 + 1))), (9, .int (nI (cnt (fun z => mkd (sE M) ((aP (sQ M) (sR M) q9 z).getD 0) (sT M - nI 2) 6) (aTo (sQ M) (sR M) q9 n8 + p9 + 1)))), (14, .int (nI i5)), (13, .int (bI (mkd (sE M) (rM (sR M) n8 p9) (sT M - nI 2) i5))), (12, .int (nI (rM (sR M) n8 p9))), (11, .int (nI p9)), (10, .int (nI n8)), (8, .int (nI (cnt (fun r => ansQ (sQ M) q9 (rS (sR M) r)) n8 + 1))), (6, .int (nI q9)), (0, .ref b0), (1, .ref (g + 1)), (2, .ref (g + 4)), (3, .ref (g + 9)), (4, .ref (g + 5)), (5, .ref (g + 3))]) hx hb dL_rows_293 hl (k := 7) rfl (nI_inc _) (by decide) rfl (fun ls hl => ?_)
                                        refine lv_iinc (v := (nI (p9 + 1))) (lv' := [(11, .int (nI (p9 + 1))), (7, .int (nI (aTo (sQ M) (sR M) q9 n8 + p9 + 1))), (9, .int (nI (cnt (fun z => mkd (sE M) ((aP (sQ M) (sR M) q9 z).getD 0) (sT M - nI 2) 6) (aTo (sQ M) (sR M) q9 n8 + p9 + 1)))), (14, .int (nI i5)), (13, .int (bI (mkd (sE M) (rM (sR M) n8 p9) (sT M - nI 2) i5))), (12, .int (nI (rM (sR M) n8 p9))), (10, .int (nI n8)), (8, .int (nI (cnt (fun r => ansQ (sQ M) q9 (rS (sR M) r)) n8 + 1))), (6, .int (nI q9)), (0, .ref b0), (1, .ref (g + 1)), (2, .ref (g + 4)), (3, .ref (g + 9)), (4, .ref (g + 5)), (5, .ref (g + 3))]) hx hb dL_rows_296 hl (k := 5) rfl (nI_inc _) (by decide) rfl (fun ls hl => ?_)
                                        refine lv_goto (tgt := 172) hx hb dL_rows_299 (by decide) ?_
                                        exact ih172 (p9 + 1) H13 locs13 (by omega) (by omega) hPK hS ls (lv_sub hl [0, 6, 2, 7, 1, 8, 9, 10, 11, 12, 13, 14] rfl)
                                      · exact absurd rfl c288
                                  · refine lv_iload hx hb dL_rows_206 (lv_at hl 1 rfl) ?_
                                    refine lv_aload_n hx hb dL_rows_208 rfl (lv_at hl 10 rfl) ?_
                                    refine lv_bipush (v := nI 6) hx hb dL_rows_209 (by decide) ?_
                                    refine lv_iload hx hb dL_rows_211 (lv_at hl 2 rfl) ?_
                                    refine y_imul hx hb dL_rows_213 ?_
                                    refine lv_iconst (v := nI 2) hx hb dL_rows_214 (by decide) ?_
                                    refine y_iadd hx hb dL_rows_215 ?_
                                    refine n_ld1 (i := (6 * (rM (sR M) n8 p9)) + 2) hx hb hK hL (by omega) dL_rows_216 ?_
                                    refine x_top (y := (nI (mKd (sE M) (rM (sR M) n8 p9)))) (hT.1.2.2.1 _ hk10 hkal) ?_
                                    refine lv_iload hx hb dL_rows_217 (lv_at hl 0 rfl) ?_
                                    refine lv_ishr hx hb dL_rows_219 ?_
                                    refine lv_iconst (v := nI 1) hx hb dL_rows_220 (by decide) ?_
                                    refine lv_iand hx hb dL_rows_221 ?_
                                    refine x_top (y := (bI (bitS (mKd (sE M) (rM (sR M) n8 p9)) i5))) (bit_val _ hk64 i5 c203) ?_
                                    refine lv_iconst (v := nI 1) hx hb dL_rows_222 (by decide) ?_
                                    refine lv_icmp_ne (tgt := 249) hx hb dL_rows_223 (by decide) (fun c223 => ?_) (fun c223 => ?_)
                                    · have hbb := bI_n1 c223
                                      refine lv_iconst (v := nI 0) hx hb dL_rows_249 (by decide) ?_
                                      refine lv_ior hx hb dL_rows_250 ?_
                                      refine x_top (y := (bI (mkd (sE M) (rM (sR M) n8 p9) (sT M - nI 2) (i5 + 1)))) (mk_f (Or.inl hbb)) ?_
                                      refine lv_istore (lv' := [(13, .int (bI (mkd (sE M) (rM (sR M) n8 p9) (sT M - nI 2) (i5 + 1)))), (14, .int (nI i5)), (12, .int (nI (rM (sR M) n8 p9))), (11, .int (nI p9)), (10, .int (nI n8)), (9, .int (nI (cnt (fun z => mkd (sE M) ((aP (sQ M) (sR M) q9 z).getD 0) (sT M - nI 2) 6) (aTo (sQ M) (sR M) q9 n8 + p9)))), (8, .int (nI (cnt (fun r => ansQ (sQ M) q9 (rS (sR M) r)) n8 + 1))), (7, .int (nI (aTo (sQ M) (sR M) q9 n8 + p9))), (6, .int (nI q9)), (0, .ref b0), (1, .ref (g + 1)), (2, .ref (g + 4)), (3, .ref (g + 9)), (4, .ref (g + 5)), (5, .ref (g + 3))]) hx hb dL_rows_251 hl (by decide) rfl (fun ls hl => ?_)
                                      refine lv_iinc (v := (nI (i5 + 1))) (lv' := [(14, .int (nI (i5 + 1))), (13, .int (bI (mkd (sE M) (rM (sR M) n8 p9) (sT M - nI 2) (i5 + 1)))), (12, .int (nI (rM (sR M) n8 p9))), (11, .int (nI p9)), (10, .int (nI n8)), (9, .int (nI (cnt (fun z => mkd (sE M) ((aP (sQ M) (sR M) q9 z).getD 0) (sT M - nI 2) 6) (aTo (sQ M) (sR M) q9 n8 + p9)))), (8, .int (nI (cnt (fun r => ansQ (sQ M) q9 (rS (sR M) r)) n8 + 1))), (7, .int (nI (aTo (sQ M) (sR M) q9 n8 + p9))), (6, .int (nI q9)), (0, .ref b0), (1, .ref (g + 1)), (2, .ref (g + 4)), (3, .ref (g + 9)), (4, .ref (g + 5)), (5, .ref (g + 3))]) hx hb dL_rows_253 hl (k := 1) rfl (nI_inc _) (by decide) rfl (fun ls hl => ?_)
                                      refine lv_goto (tgt := 199) hx hb dL_rows_256 (by decide) ?_
                                      exact ih199 (i5 + 1) (by omega) (by omega) ls (lv_sub hl [0, 1, 2, 3, 4, 5, 6, 7, 8, 9, 10, 11, 12, 13, 14] rfl)
                                    · have hbb := bI_e1 c223
                                      refine lv_aload hx hb dL_rows_226 (lv_at hl 14 rfl) ?_
                                      refine lv_bipush (v := nI 6) hx hb dL_rows_228 (by decide) ?_
                                      refine lv_iload hx hb dL_rows_230 (lv_at hl 2 rfl) ?_
                                      refine y_imul hx hb dL_rows_232 ?_
                                      refine lv_iload hx hb dL_rows_233 (lv_at hl 0 rfl) ?_
                                      refine y_iadd hx hb dL_rows_235 ?_
                                      refine n_ld3 (i := (6 * (rM (sR M) n8 p9)) + i5) hx hb hK hL (by omega) dL_rows_236 ?_
                                      refine x_top (y := (mMk (sE M) (rM (sR M) n8 p9) i5)) (hT.1.2.2.2.2.2.2 _ i5 hk10 c203) ?_
                                      refine lv_aload_n hx hb dL_rows_237 rfl (lv_at hl 12 rfl) ?_
                                      refine lv_iconst (v := nI 1) hx hb dL_rows_238 (by decide) ?_
                                      refine n_ld9 (i := 1) hx hb hK hL (by omega) dL_rows_239 ?_
                                      refine x_top (y := (sT M)) (ht) ?_
                                      refine lv_iconst (v := nI 2) hx hb dL_rows_240 (by decide) ?_
                                      refine lv_isub hx hb dL_rows_241 ?_
                                      refine lv_icmp_le (tgt := 249) hx hb dL_rows_242 (by decide) (fun c242 => ?_) (fun c242 => ?_)
                                      · refine lv_iconst (v := nI 0) hx hb dL_rows_249 (by decide) ?_
                                        refine lv_ior hx hb dL_rows_250 ?_
                                        refine x_top (y := (bI (mkd (sE M) (rM (sR M) n8 p9) (sT M - nI 2) (i5 + 1)))) (mk_f (Or.inr c242)) ?_
                                        refine lv_istore (lv' := [(13, .int (bI (mkd (sE M) (rM (sR M) n8 p9) (sT M - nI 2) (i5 + 1)))), (14, .int (nI i5)), (12, .int (nI (rM (sR M) n8 p9))), (11, .int (nI p9)), (10, .int (nI n8)), (9, .int (nI (cnt (fun z => mkd (sE M) ((aP (sQ M) (sR M) q9 z).getD 0) (sT M - nI 2) 6) (aTo (sQ M) (sR M) q9 n8 + p9)))), (8, .int (nI (cnt (fun r => ansQ (sQ M) q9 (rS (sR M) r)) n8 + 1))), (7, .int (nI (aTo (sQ M) (sR M) q9 n8 + p9))), (6, .int (nI q9)), (0, .ref b0), (1, .ref (g + 1)), (2, .ref (g + 4)), (3, .ref (g + 9)), (4, .ref (g + 5)), (5, .ref (g + 3))]) hx hb dL_rows_251 hl (by decide) rfl (fun ls hl => ?_)
                                        refine lv_iinc (v := (nI (i5 + 1))) (lv' := [(14, .int (nI (i5 + 1))), (13, .int (bI (mkd (sE M) (rM (sR M) n8 p9) (sT M - nI 2) (i5 + 1)))), (12, .int (nI (rM (sR M) n8 p9))), (11, .int (nI p9)), (10, .int (nI n8)), (9, .int (nI (cnt (fun z => mkd (sE M) ((aP (sQ M) (sR M) q9 z).getD 0) (sT M - nI 2) 6) (aTo (sQ M) (sR M) q9 n8 + p9)))), (8, .int (nI (cnt (fun r => ansQ (sQ M) q9 (rS (sR M) r)) n8 + 1))), (7, .int (nI (aTo (sQ M) (sR M) q9 n8 + p9))), (6, .int (nI q9)), (0, .ref b0), (1, .ref (g + 1)), (2, .ref (g + 4)), (3, .ref (g + 9)), (4, .ref (g + 5)), (5, .ref (g + 3))]) hx hb dL_rows_253 hl (k := 1) rfl (nI_inc _) (by decide) rfl (fun ls hl => ?_)
                                        refine lv_goto (tgt := 199) hx hb dL_rows_256 (by decide) ?_
                                        exact ih199 (i5 + 1) (by omega) (by omega) ls (lv_sub hl [0, 1, 2, 3, 4, 5, 6, 7, 8, 9, 10, 11, 12, 13, 14] rfl)
                                      · refine lv_iconst (v := nI 1) hx hb dL_rows_245 (by decide) ?_
                                        refine lv_goto (tgt := 250) hx hb dL_rows_246 (by decide) ?_
                                        refine lv_ior hx hb dL_rows_250 ?_
                                        refine x_top (y := (bI (mkd (sE M) (rM (sR M) n8 p9) (sT M - nI 2) (i5 + 1)))) (mk_t hbb c242) ?_
                                        refine lv_istore (lv' := [(13, .int (bI (mkd (sE M) (rM (sR M) n8 p9) (sT M - nI 2) (i5 + 1)))), (14, .int (nI i5)), (12, .int (nI (rM (sR M) n8 p9))), (11, .int (nI p9)), (10, .int (nI n8)), (9, .int (nI (cnt (fun z => mkd (sE M) ((aP (sQ M) (sR M) q9 z).getD 0) (sT M - nI 2) 6) (aTo (sQ M) (sR M) q9 n8 + p9)))), (8, .int (nI (cnt (fun r => ansQ (sQ M) q9 (rS (sR M) r)) n8 + 1))), (7, .int (nI (aTo (sQ M) (sR M) q9 n8 + p9))), (6, .int (nI q9)), (0, .ref b0), (1, .ref (g + 1)), (2, .ref (g + 4)), (3, .ref (g + 9)), (4, .ref (g + 5)), (5, .ref (g + 3))]) hx hb dL_rows_251 hl (by decide) rfl (fun ls hl => ?_)
                                        refine lv_iinc (v := (nI (i5 + 1))) (lv' := [(14, .int (nI (i5 + 1))), (13, .int (bI (mkd (sE M) (rM (sR M) n8 p9) (sT M - nI 2) (i5 + 1)))), (12, .int (nI (rM (sR M) n8 p9))), (11, .int (nI p9)), (10, .int (nI n8)), (9, .int (nI (cnt (fun z => mkd (sE M) ((aP (sQ M) (sR M) q9 z).getD 0) (sT M - nI 2) 6) (aTo (sQ M) (sR M) q9 n8 + p9)))), (8, .int (nI (cnt (fun r => ansQ (sQ M) q9 (rS (sR M) r)) n8 + 1))), (7, .int (nI (aTo (sQ M) (sR M) q9 n8 + p9))), (6, .int (nI q9)), (0, .ref b0), (1, .ref (g + 1)), (2, .ref (g + 4)), (3, .ref (g + 9)), (4, .ref (g + 5)), (5, .ref (g + 3))]) hx hb dL_rows_253 hl (k := 1) rfl (nI_inc _) (by decide) rfl (fun ls hl => ?_)
                                        refine lv_goto (tgt := 199) hx hb dL_rows_256 (by decide) ?_
                                        exact ih199 (i5 + 1) (by omega) (by omega) ls (lv_sub hl [0, 1, 2, 3, 4, 5, 6, 7, 8, 9, 10, 11, 12, 13, 14] rfl)
                              exact loop199 (6 - 0 + 1) 0 (Nat.lt_succ_self _) (by omega) ls (lv_sub hl [0, 1, 2, 3, 4, 5, 6, 7, 8, 9, 10, 11, 12, 13, 14] rfl)
                        exact loop172 (rZ (sR M) n8 - 0 + 1) 0 H7 locs7 (Nat.lt_succ_self _) (by omega) hPK hS ls (lv_sub hl [0, 2, 3, 1, 4, 5, 6, 7, 8, 9, 10, 11] rfl)
                      · have hans := c160
                        refine lv_goto (tgt := 302) hx hb dL_rows_163 (by decide) ?_
                        have ea := aTo_f (Q := sQ M) hans
                        have hl : lv_has ls 15 [(10, .int (nI n8)), (9, .int (nI (cnt (fun z => mkd (sE M) ((aP (sQ M) (sR M) q9 z).getD 0) (sT M - nI 2) 6) (aTo (sQ M) (sR M) q9 n8)))), (8, .int (nI (cnt (fun r => ansQ (sQ M) q9 (rS (sR M) r)) n8))), (7, .int (nI (aTo (sQ M) (sR M) q9 (n8 + 1)))), (6, .int (nI q9)), (0, .ref b0), (1, .ref (g + 1)), (2, .ref (g + 4)), (3, .ref (g + 9)), (4, .ref (g + 5)), (5, .ref (g + 3))] := by
                          have e9 : (nI (aTo (sQ M) (sR M) q9 n8)) = (nI (aTo (sQ M) (sR M) q9 (n8 + 1))) := by rw [ea]
                          first
                            | (rw [← e9]; exact hl)
                            | (rw [e9] at hl; exact hl)
                        have hl : lv_has ls 15 [(10, .int (nI n8)), (9, .int (nI (cnt (fun z => mkd (sE M) ((aP (sQ M) (sR M) q9 z).getD 0) (sT M - nI 2) 6) (aTo (sQ M) (sR M) q9 (n8 + 1))))), (8, .int (nI (cnt (fun r => ansQ (sQ M) q9 (rS (sR M) r)) n8))), (7, .int (nI (aTo (sQ M) (sR M) q9 (n8 + 1)))), (6, .int (nI q9)), (0, .ref b0), (1, .ref (g + 1)), (2, .ref (g + 4)), (3, .ref (g + 9)), (4, .ref (g + 5)), (5, .ref (g + 3))] := by
                          have e9 : (nI (cnt (fun z => mkd (sE M) ((aP (sQ M) (sR M) q9 z).getD 0) (sT M - nI 2) 6) (aTo (sQ M) (sR M) q9 n8))) = (nI (cnt (fun z => mkd (sE M) ((aP (sQ M) (sR M) q9 z).getD 0) (sT M - nI 2) 6) (aTo (sQ M) (sR M) q9 (n8 + 1)))) := by rw [ea]
                          first
                            | (rw [← e9]; exact hl)
                            | (rw [e9] at hl; exact hl)
                        have hl : lv_has ls 15 [(10, .int (nI n8)), (9, .int (nI (cnt (fun z => mkd (sE M) ((aP (sQ M) (sR M) q9 z).getD 0) (sT M - nI 2) 6) (aTo (sQ M) (sR M) q9 (n8 + 1))))), (8, .int (nI (cnt (fun r => ansQ (sQ M) q9 (rS (sR M) r)) (n8 + 1)))), (7, .int (nI (aTo (sQ M) (sR M) q9 (n8 + 1)))), (6, .int (nI q9)), (0, .ref b0), (1, .ref (g + 1)), (2, .ref (g + 4)), (3, .ref (g + 9)), (4, .ref (g + 5)), (5, .ref (g + 3))] := by
                          have e9 : (nI (cnt (fun r => ansQ (sQ M) q9 (rS (sR M) r)) n8)) = (nI (cnt (fun r => ansQ (sQ M) q9 (rS (sR M) r)) (n8 + 1))) := congrArg nI (cnt_f (f := fun r => ansQ (sQ M) q9 (rS (sR M) r)) hans).symm
                          first
                            | (rw [← e9]; exact hl)
                            | (rw [e9] at hl; exact hl)
                        refine W.widen (k := 1536 + 256 * q9 + 7 * aTo (sQ M) (sR M) q9 (n8 + 1)) (n := 9216 + 4000 * q9 + 95 * aTo (sQ M) (sR M) q9 (n8 + 1)) (by omega) (by omega) ?_
                        refine lv_iinc (v := (nI (n8 + 1))) (lv' := [(10, .int (nI (n8 + 1))), (9, .int (nI (cnt (fun z => mkd (sE M) ((aP (sQ M) (sR M) q9 z).getD 0) (sT M - nI 2) 6) (aTo (sQ M) (sR M) q9 (n8 + 1))))), (8, .int (nI (cnt (fun r => ansQ (sQ M) q9 (rS (sR M) r)) (n8 + 1)))), (7, .int (nI (aTo (sQ M) (sR M) q9 (n8 + 1)))), (6, .int (nI q9)), (0, .ref b0), (1, .ref (g + 1)), (2, .ref (g + 4)), (3, .ref (g + 9)), (4, .ref (g + 5)), (5, .ref (g + 3))]) hx hb dL_rows_302 hl (k := 0) rfl (nI_inc _) (by decide) rfl (fun ls hl => ?_)
                        refine lv_goto (tgt := 141) hx hb dL_rows_305 (by decide) ?_
                        exact ih141 (n8 + 1) H7 locs7 (by omega) (by omega) hPK hS ls (lv_sub hl [0, 1, 2, 3, 4, 5, 6, 7, 8, 9, 10] rfl)
                exact loop141 (rN (sR M) - 0 + 1) 0 H8 locs8 (Nat.lt_succ_self _) (by omega) hPK hS ls (lv_sub hl [0, 1, 2, 3, 4, 5, 6, 7, 8, 9, 10] rfl)
          exact loop121 ((sQ M).1 - 0 + 1) 0 H9 locs9 (Nat.lt_succ_self _) (by omega) hPK hS ls (lv_sub hl [0, 1, 2, 3, 4, 5, 6] rfl)
        · have hz32 := ok.z c20
          have hmany := hT.2.2.many ok ha h10 c20
          have hz10 : rZ (sR M) n9 ≤ 10 := by rw [← hmany]; exact cnt_le _ 10
          have hS64 := iR.1 n9 c20
          refine lv_iload hx hb dL_rows_23 (lv_at hl 0 rfl) ?_
          refine lv_aload_n hx hb dL_rows_25 rfl (lv_at hl 2 rfl) ?_
          refine k_ip (k_S (As := [.int (nI n9), .ref (g + 1)]) (rest := []) ⟨hx, hb, hml, hown, hts⟩ hev hS (c_L_many l hL (nI n9)) (va_cwS 2 hts gL_rows_L_many rfl rfl rfl (by decide +kernel) ⟨Nat.le_of_ble_eq_true rfl, Nat.le_of_ble_eq_true rfl⟩) rfl hl.1 (Nat.le_of_ble_eq_true rfl) dL_rows_26 (by show _ ≤ (3584 : Nat); omega) (by show _ ≤ (41216 : Nat); omega)) hS hnt hlk (fun _ _ h _ => h.elim) (by show _ ≤ (3584 : Nat); omega) (by show _ ≤ (41216 : Nat); omega) (fun rq14_ H14 locs14 hP hz14 hS => ?_)
          refine W.widen (k := 24 * n9) (n := 144 * n9) (Nat.le_refl _) (Nat.le_refl _) ?_
          have hPK : PK D T dE b0 A g Y M H14 := by rw [hP.1]; exact hPK
          have hL := hPK.sl
          have er := hP.2
          refine x_top (y := (nI (rZ (sR M) n9))) (by rw [er]; exact congrArg nI hmany) ?_
          refine lv_istore (lv' := [(7, .int (nI (rZ (sR M) n9))), (6, .int (nI n9)), (0, .ref b0), (1, .ref (g + 1)), (2, .ref (g + 4)), (3, .ref (g + 9)), (4, .ref (g + 5)), (5, .ref (g + 3))]) hx hb dL_rows_29 hl (by decide) rfl (fun ls hl => ?_)
          refine lv_aload_n hx hb dL_rows_31 rfl (lv_at hl 2 rfl) ?_
          refine lv_iload hx hb dL_rows_32 (lv_at hl 1 rfl) ?_
          refine k_ip (k_V (As := [.int (nI n9)]) (rest := []) ⟨hx, hb, hml, hown, hts⟩ hev hS (w_setOf l hst hPK hI (nI n9) (by rw [so_0 c20 h64]; rfl)) (cwV 1 hts gL_rows_X6_setOf rfl rfl rfl (by decide +kernel) ⟨Nat.le_of_ble_eq_true rfl, Nat.le_of_ble_eq_true rfl⟩) (pk_recv hK hPK) rfl hl.1 (Nat.le_of_ble_eq_true rfl) dL_rows_34 (by show _ ≤ (3584 : Nat); omega) (by show _ ≤ (41216 : Nat); omega)) hS hnt hlk (fun _ _ h _ => h.elim) (by show _ ≤ (3584 : Nat); omega) (by show _ ≤ (41216 : Nat); omega) (fun rq15_ H15 locs15 hP hz15 hS => ?_)
          rw [so_0 c20 h64] at hP
          have er := hP.1
          have hPK : PK D T dE b0 A g Y M H15 := hP.2
          have hL := hPK.sl
          refine x_top (y := (nI (rS (sR M) n9))) (er) ?_
          refine lv_aload_n hx hb dL_rows_37 rfl (lv_at hl 4 rfl) ?_
          refine lv_iload hx hb dL_rows_38 (lv_at hl 1 rfl) ?_
          refine n_ld4 (i := n9) hx hb hK hL (by omega) dL_rows_40 ?_
          refine x_top (y := (nI (rS (sR M) n9))) (hT.2.1.2 n9 c20) ?_
          refine y_icmp_ne hx hb (by omega) (by omega) (tgt := 69) dL_rows_41 (by decide) (fun c41 => ?_) (fun c41 => ?_)
          · exact absurd rfl c41
          · refine lv_aload_n hx hb dL_rows_44 rfl (lv_at hl 2 rfl) ?_
            refine lv_iload hx hb dL_rows_45 (lv_at hl 1 rfl) ?_
            refine k_ip (k_V (As := [.int (nI n9)]) (rest := []) ⟨hx, hb, hml, hown, hts⟩ hev hS (w_size l hst hPK hI (nI n9) (by rw [sz_0 c20 h64]; rfl)) (cwV 1 hts gL_rows_X6_size rfl rfl rfl (by decide +kernel) ⟨Nat.le_of_ble_eq_true rfl, Nat.le_of_ble_eq_true rfl⟩) (pk_recv hK hPK) rfl hl.1 (Nat.le_of_ble_eq_true rfl) dL_rows_47 (by show _ ≤ (3584 : Nat); omega) (by show _ ≤ (41216 : Nat); omega)) hS hnt hlk (fun _ _ h _ => h.elim) (by show _ ≤ (3584 : Nat); omega) (by show _ ≤ (41216 : Nat); omega) (fun rq16_ H16 locs16 hP hz16 hS => ?_)
            rw [sz_0 c20 h64] at hP
            have er := hP.1
            have hPK : PK D T dE b0 A g Y M H16 := hP.2
            have hL := hPK.sl
            refine x_top (y := (nI (rZ (sR M) n9))) (er) ?_
            refine lv_iload hx hb dL_rows_50 (lv_at hl 0 rfl) ?_
            refine y_icmp_ne hx hb (by omega) (by omega) (tgt := 69) dL_rows_52 (by decide) (fun c52 => ?_) (fun c52 => ?_)
            · exact absurd rfl c52
            · refine lv_aload_n hx hb dL_rows_55 rfl (lv_at hl 2 rfl) ?_
              refine lv_bipush (v := nI 7) hx hb dL_rows_56 (by decide) ?_
              refine lv_iload hx hb dL_rows_58 (lv_at hl 1 rfl) ?_
              refine lv_iload hx hb dL_rows_60 (lv_at hl 0 rfl) ?_
              refine k_ip (k_SW (As := [.ref b0, .int (nI 7), .int (nI n9), .int (nI (rZ (sR M) n9))]) (rest := []) ⟨hx, hb, hml, hown, hts⟩ hev hS (r_L7 l hst hPK hI (nI n9) (nI (rZ (sR M) n9)) (w := 4) (by rw [ea_e (by omega) (by omega)]; show ¬ (1 : Nat) = 0; decide) (by rw [ea_e (by omega) (by omega)]; rfl)) (vx_cwSW 4 hts gL_rows_L_refused rfl rfl rfl (by decide +kernel) ⟨Nat.le_of_ble_eq_true rfl, Nat.le_of_ble_eq_true rfl⟩) rfl hl.1 (Nat.le_of_ble_eq_true rfl) dL_rows_62 (by show _ ≤ (3584 : Nat); omega) (by show _ ≤ (41216 : Nat); omega)) hS hnt hlk (fun _ _ h _ => h.elim) (by show _ ≤ (3584 : Nat); omega) (by show _ ≤ (41216 : Nat); omega) (fun rq17_ H17 locs17 hP hz17 hS => ?_)
              have er := hP.1
              have hPK : PK D T dE b0 A g Y M H17 := hP.2
              have hL := hPK.sl
              refine x_top (y := (nI 4)) (er) ?_
              refine lv_iconst (v := nI 4) hx hb dL_rows_65 (by decide) ?_
              refine y_icmp_eq hx hb (by decide) (by decide) (tgt := 71) dL_rows_66 (by decide) (fun c66 => ?_) (fun c66 => ?_)
              · refine lv_iconst (v := nI 0) hx hb dL_rows_71 (by decide) ?_
                refine W.widen (k := 24 * n9 + 4 + 2 * 0) (n := 144 * n9 + 24 + 12 * 0) (by omega) (by omega) ?_
                refine lv_istore (lv' := [(8, .int (nI 0)), (7, .int (nI (rZ (sR M) n9))), (6, .int (nI n9)), (0, .ref b0), (1, .ref (g + 1)), (2, .ref (g + 4)), (3, .ref (g + 9)), (4, .ref (g + 5)), (5, .ref (g + 3))]) hx hb dL_rows_72 hl (by decide) rfl (fun ls hl => ?_)
                have loop74 : ∀ (n : Nat) (i7 : Nat) (H7 : Heap) (locs7 : List Loc), rZ (sR M) n9 - i7 < n → (i7 ≤ rZ (sR M) n9) → (PK D T dE b0 A g Y M H7) → (va_S A s.heap H7 locs7) → ∀ (ls : Array Slot), lv_has ls 15 [(8, .int (nI i7)), (7, .int (nI (rZ (sR M) n9))), (6, .int (nI n9)), (0, .ref b0), (1, .ref (g + 1)), (2, .ref (g + 4)), (3, .ref (g + 9)), (4, .ref (g + 5)), (5, .ref (g + 3))] → W p l e (rmL 12 3584 41216) s m args below meth c H7 locs7 (24 * n9 + 4 + 2 * i7) (144 * n9 + 24 + 12 * i7) (vx_MQ below (QI A (fun r H1 => r = nI 1 ∧ PK D T dE b0 A g Y M H1)) (XX A (XN)) args s 3584 41216 A) (F0 m 74 ls []) := by
                  intro n
                  induction n with
                  | zero => intro i7 H7 locs7 hfuel; exact absurd hfuel (Nat.not_lt_zero _)
                  | succ n ih74 =>
                    intro i7 H7 locs7 hfuel hi7 hPK hS ls hl
                    have hL := hPK.sl
                    refine lv_iload hx hb dL_rows_74 (lv_at hl 0 rfl) ?_
                    refine lv_iload hx hb dL_rows_76 (lv_at hl 1 rfl) ?_
                    refine y_icmp_ge hx hb (by omega) (by omega) (tgt := 112) dL_rows_78 (by decide) (fun c78 => ?_) (fun c78 => ?_)
                    · refine W.widen (k := 24 * (n9 + 1)) (n := 144 * (n9 + 1)) (by omega) (by omega) ?_
                      refine lv_iinc (v := (nI (n9 + 1))) (lv' := [(6, .int (nI (n9 + 1))), (8, .int (nI i7)), (7, .int (nI (rZ (sR M) n9))), (0, .ref b0), (1, .ref (g + 1)), (2, .ref (g + 4)), (3, .ref (g + 9)), (4, .ref (g + 5)), (5, .ref (g + 3))]) hx hb dL_rows_112 hl (k := 2) rfl (nI_inc _) (by decide) rfl (fun ls hl => ?_)
                      refine lv_goto (tgt := 15) hx hb dL_rows_115 (by decide) ?_
                      exact ih15 (n9 + 1) H7 locs7 (by omega) (by omega) hPK hS ls (lv_sub hl [0, 3, 4, 5, 6, 7, 8] rfl)
                    · have hme10 := h10 _ (hT.2.2.2.1 n9 i7 c20 c78)
                      refine lv_aload_n hx hb dL_rows_81 rfl (lv_at hl 3 rfl) ?_
                      refine lv_iload hx hb dL_rows_82 (lv_at hl 2 rfl) ?_
                      refine lv_iload hx hb dL_rows_84 (lv_at hl 0 rfl) ?_
                      refine k_ip (k_V (As := [.int (nI n9), .int (nI i7)]) (rest := []) ⟨hx, hb, hml, hown, hts⟩ hev hS (w_entityAt l hst hPK hI (nI n9) (nI i7) (by rw [ea_0 c20 h64 c78 hz32]; rfl)) (cwV 2 hts gL_rows_X6_entityAt rfl rfl rfl (by decide +kernel) ⟨Nat.le_of_ble_eq_true rfl, Nat.le_of_ble_eq_true rfl⟩) (pk_recv hK hPK) rfl hl.1 (Nat.le_of_ble_eq_true rfl) dL_rows_86 (by show _ ≤ (3584 : Nat); omega) (by show _ ≤ (41216 : Nat); omega)) hS hnt hlk (fun _ _ h _ => h.elim) (by show _ ≤ (3584 : Nat); omega) (by show _ ≤ (41216 : Nat); omega) (fun rq18_ H18 locs18 hP hz18 hS => ?_)
                      rw [ea_0 c20 h64 c78 hz32] at hP
                      have er := hP.1
                      have hPK : PK D T dE b0 A g Y M H18 := hP.2
                      have hL := hPK.sl
                      refine x_top (y := (handle (sE M) (rM (sR M) n9 i7))) (er) ?_
                      refine lv_iload hx hb dL_rows_89 (lv_at hl 2 rfl) ?_
                      refine lv_iload hx hb dL_rows_91 (lv_at hl 0 rfl) ?_
                      refine lv_aload_n hx hb dL_rows_93 rfl (lv_at hl 4 rfl) ?_
                      refine k_ip (k_S (As := [.int (nI n9), .int (nI i7), .ref (g + 1)]) (rest := [.int (handle (sE M) (rM (sR M) n9 i7))]) ⟨hx, hb, hml, hown, hts⟩ hev hS (c_L_at l hL (nI n9) (nI i7)) (va_cwS 3 hts gL_rows_L_at rfl rfl rfl (by decide +kernel) ⟨Nat.le_of_ble_eq_true rfl, Nat.le_of_ble_eq_true rfl⟩) rfl hl.1 (Nat.le_of_ble_eq_true rfl) dL_rows_94 (by show _ ≤ (3584 : Nat); omega) (by show _ ≤ (41216 : Nat); omega)) hS hnt hlk (fun _ _ h _ => h.elim) (by show _ ≤ (3584 : Nat); omega) (by show _ ≤ (41216 : Nat); omega) (fun rq19_ H19 locs19 hP hz19 hS => ?_)
                      refine W.widen (k := 24 * n9 + 4 + 2 * i7 + 2) (n := 144 * n9 + 24 + 12 * i7 + 12) (Nat.le_refl _) (Nat.le_refl _) ?_
                      have hPK : PK D T dE b0 A g Y M H19 := by rw [hP.1]; exact hPK
                      have hL := hPK.sl
                      obtain ⟨-, o9, eo, ho⟩ := hP
                      refine x_top (y := (nI (rM (sR M) n9 i7))) (by rw [eo, hT.2.2.at ok ha h10 c20 c78 ho]; rfl) ?_
                      refine lv_aload_n hx hb dL_rows_97 rfl (lv_at hl 4 rfl) ?_
                      refine k_ip (k_S (As := [.int (nI (rM (sR M) n9 i7)), .ref (g + 1)]) (rest := [.int (handle (sE M) (rM (sR M) n9 i7))]) ⟨hx, hb, hml, hown, hts⟩ hev hS (c_L_handle l hL hT.1 hme10) (va_cwS 2 hts gL_rows_L_handle rfl rfl rfl (by decide +kernel) ⟨Nat.le_of_ble_eq_true rfl, Nat.le_of_ble_eq_true rfl⟩) rfl hl.1 (Nat.le_of_ble_eq_true rfl) dL_rows_98 (by show _ ≤ (3584 : Nat); omega) (by show _ ≤ (41216 : Nat); omega)) hS hnt hlk (fun _ _ h _ => h.elim) (by show _ ≤ (3584 : Nat); omega) (by show _ ≤ (41216 : Nat); omega) (fun rq20_ H20 locs20 hP hz20 hS => ?_)
                      refine W.widen (k := 24 * n9 + 4 + 2 * i7 + 2) (n := 144 * n9 + 24 + 12 * i7 + 12) (Nat.le_refl _) (Nat.le_refl _) ?_
                      have hPK : PK D T dE b0 A g Y M H20 := by rw [hP.1]; exact hPK
                      have hL := hPK.sl
                      have er := hP.2
                      refine x_top (y := (handle (sE M) (rM (sR M) n9 i7))) (er) ?_
                      refine lv_icmp_eq (tgt := 106) hx hb dL_rows_101 (by decide) (fun c101 => ?_) (fun c101 => ?_)
                      · refine W.widen (k := 24 * n9 + 4 + 2 * (i7 + 1)) (n := 144 * n9 + 24 + 12 * (i7 + 1)) (by omega) (by omega) ?_
                        refine lv_iinc (v := (nI (i7 + 1))) (lv' := [(8, .int (nI (i7 + 1))), (7, .int (nI (rZ (sR M) n9))), (6, .int (nI n9)), (0, .ref b0), (1, .ref (g + 1)), (2, .ref (g + 4)), (3, .ref (g + 9)), (4, .ref (g + 5)), (5, .ref (g + 3))]) hx hb dL_rows_106 hl (k := 0) rfl (nI_inc _) (by decide) rfl (fun ls hl => ?_)
                        refine lv_goto (tgt := 74) hx hb dL_rows_109 (by decide) ?_
                        exact ih74 (i7 + 1) H20 locs20 (by omega) (by omega) hPK hS ls (lv_sub hl [0, 1, 2, 3, 4, 5, 6, 7, 8] rfl)
                      · exact absurd rfl c101
                exact loop74 (rZ (sR M) n9 - 0 + 1) 0 H17 locs17 (Nat.lt_succ_self _) (by omega) hPK hS ls (lv_sub hl [0, 1, 2, 3, 4, 5, 6, 7, 8] rfl)
              · exact absurd c66 (by decide)
    exact loop15 (rN (sR M) - 0 + 1) 0 H1 locs1 (Nat.lt_succ_self _) (by omega) hPK hS ls (lv_sub hl [0, 1, 2, 3, 4, 5, 6] rfl)
  · exact absurd rfl c7

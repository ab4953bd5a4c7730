/-- .. and the store's own object may have changed -/
def Nx1 (D : va_G) (T : Nat → ClassId) (dE b : Nat) (A : Nat → Prop) (tg : Nat → Nat) (H H1 : Heap) (E : mE) (R : mR) (wo : Option Nat) (tk : Int32) : Prop := ∃ (tg1 : Nat → Nat) (y1 : mLy), Core D T dE b tg1 H1 A E R y1 wo tk ∧ TX tg H tg1 ∧ FR tg (fun t => t = 1 ∨ CS t) H H1
theorem PX.put {D : va_G} {T : Nat → ClassId} {b : Nat} {H H1 : Heap} {wo w1 : Option Nat} {tk t1 : Int32} (h : PX D T b H wo tk) (ho : oc D H1 b 9 [.ref (b + 1), .ref (b + 2), .ref (b + 3), .ref (b + 4), va_rf w1, .int t1]) (e : ∀ q : Nat, q ≠ b → H1[q]? = H[q]?) : PX D T b H1 w1 t1 := ⟨ho, h.2.kept (e _ (by omega))⟩
theorem FR.b0 {tg : Nat → Nat} {A : Nat → Prop} {b : Nat} {H H1 : Heap} (hT : TG A b H tg) (hz : H1.size = H.size) (e : ∀ q : Nat, q ≠ b → H1[q]? = H[q]?) : FR tg (fun t => t = 1) H H1 := ⟨by omega, fun q _ h2 => e q (fun z => h2 (by rw [z]; exact hT.2.2.1))⟩
theorem fin_1 {M : mSt} (h : wOn (sW M) = false) : oFinish M = oErr M 1 := if_pos h
theorem wo_f {M : mSt} {wo : Option Nat} (hwo : wOn (sW M) = wo.isSome) (h : wo = none) : wOn (sW M) = false := by rw [hwo, h]; rfl
set_option maxRecDepth 100000 in
theorem in_X6_finish_RX5 : ∀ w ∈ wsX50, w ∈ wsX6_finish := by decide +kernel
set_option maxRecDepth 100000 in
theorem in_X6_finish_RX6 : ∀ w ∈ wsX60, w ∈ wsX6_finish := by decide +kernel
set_option maxHeartbeats 4000000 in
set_option maxRecDepth 100000 in
theorem c_X6_finish (l : Launch) {D : va_G} {T : Nat → ClassId} {dE mi : Nat} (hst : l.stackTraces = false) {A : Nat → Prop} {H : Heap} {b0 : Nat} {tg : Nat → Nat} {wo : Option Nat} {M : mSt} {y : mLy} (hC : Core D T dE b0 tg H A (sE M) (sR M) y wo (sT M)) (iE : InvE (sE M)) (iR : InvR (sE M) (sR M)) (hwo : wOn (sW M) = wo.isSome) (hW : RepW D T dE b0 tg H (sW M) wo) {bd : Nat} (hI : Inv bd M) (hb8 : bd + 800 ≤ 900000) : vx_Met l yX6_finish wsX6_finish (rmL 13 281 5166) (PcE D T dE mi A H [.ref b0]) (QI A (fun r H1 => (oFinish M).1 = 0 ∧ r = (oFinish M).2.1 ∧ Nx1 D T dE b0 A tg H H1 (sE (oFinish M).2.2) (sR (oFinish M).2.2) none (sT M))) (XX A (XE H (fun E9 => E9 = "java/lang/IllegalStateException" ∧ (oFinish M).1 = 1))) 281 5166 A := by
  refine entry (cc := cX6_finish) (maxL := 4) (ret := (some .int)) (by decide) rfl (Nat.le_of_ble_eq_true rfl) ?_
  intro p e s m args below meth c hx hb hrt9 hml hown hts hlk hnt hnm hev hS ls hl
  have hown : s.vm.findClass RX6 = some m.cls := hown
  have hK := hev.1
  have hl : lv_has ls 4 [(0, .ref b0)] := hl
  obtain ⟨hT, hX, hE, hR⟩ := id hC
  refine lv_aload_n hx hb dX6_finish_0 rfl (lv_at hl 0 rfl) ?_
  refine k_qp (k_V (As := []) (rest := []) ⟨hx, hb, hml, hown, hts⟩ hev hS (c_X6_walkThatGoesOn l hst hX.1) (cwV 0 hts gX6_finish_X6_walkThatGoesOn rfl rfl rfl (by decide +kernel) ⟨Nat.le_of_ble_eq_true rfl, Nat.le_of_ble_eq_true rfl⟩) (x_recv hK hX.1 rfl) rfl hl.1 (Nat.le_of_ble_eq_true rfl) dX6_finish_1 (Nat.le_of_ble_eq_true rfl) (Nat.le_of_ble_eq_true rfl)) hS hnt hlk (fun E9 H9 h9 z9 => ⟨⟨h9.1.1, by rw [fin_1 (wo_f hwo h9.1.2)]; rfl⟩, h9.2⟩) (Nat.le_of_ble_eq_true rfl) (Nat.le_of_ble_eq_true rfl) (fun rq1_ H1 locs1 hP hz1 hS => ?_)
  obtain ⟨eH, er, hwn⟩ := hP
  have eH := eH.symm
  subst eH
  obtain ⟨hon, wk, al, aarr, acap, cl, zc, hwk, hk1, hk2, hk3, hk4⟩ : wOn (sW M) = true ∧ ∃ (wk al aarr acap cl : Nat) (z : mLz), wo = some wk ∧ RepK D T dE b0 tg H (sW M) wk al aarr acap cl z := hW.elim (fun h => absurd h.2 hwn) id
  refine x_tov (y := .ref wk) (by rw [er, hwk]; rfl) ?_
  obtain ⟨iw1, iw2, iw3, iw4, iw5⟩ := hI.2.2.2.1 hon
  refine x_getN (C := RX5) (TT := TX5) (N := 3) (ci := 8) (v := .ref cl) hx hb hts in_X6_finish_RX5 hown hK (hk1) rfl 1 (by decide) (hev.2.2.2.2.1.2 ("Archeloft", 190, "Archeloft$Walk", "commands", "Ljava/util/ArrayList;") (by decide +kernel)) (fun _ h9 => h9) rfl dX6_finish_4 ?_
  refine lv_astore_n (lv' := [(1, .ref cl), (0, .ref b0)]) hx hb dX6_finish_7 rfl hl (by decide) rfl (fun ls hl => ?_)
  refine lv_aload_n hx hb dX6_finish_8 rfl (lv_at hl 1 rfl) ?_
  refine lv_null hx hb dX6_finish_9 ?_
  refine x_put (C := RX6) (TT := TX6) (N := 6) (ci := 9) (v := .null) (ty := tyX6 4) hx hb hts in_X6_finish_RX6 tyX6 tyX6_ok nmX6 hown hK hS (hX.1) (hT.a hT.2.2.1 (by decide)) rfl 4 (by decide) (hts (.fieldLink RX6 28 "Archeloft" "walkOfNow" "LArcheloft$Walk;") (by decide +kernel)) (fun _ h9 => h9) rfl (tyX6_ok 4 (by decide)) rfl rfl (Nat.le_of_ble_eq_true rfl) dX6_finish_10 (fun H2 locs2 ho2 hz2 hq2 hS => ?_)
  have ho2 : oc D H2 b0 9 [.ref ((b0 + 1)), .ref ((b0 + 2)), .ref ((b0 + 3)), .ref ((b0 + 4)), .null, .int ((sT M))] := ho2
  have hX1 : PX D T b0 H2 none (sT M) := hX.put ho2 hq2
  have f1 := FR.b0 hT hz2 hq2
  have hT1 := hT.kept f1.1
  have hE1 := hE.keptF hT f1 (by decide)
  have hR1 := hR.kept TX.rf f1 (fun t (z : t = 1) => by omega)
  have hc1 := hk4.kept TX.rf f1 (by decide) (by decide) (by decide) (by decide)
  have hC1 : Core D T dE b0 tg H2 A (sE M) (sR M) y none (sT M) := ⟨hT1, hX1, hE1, hR1⟩
  refine lv_iconst (v := nI 0) hx hb dX6_finish_13 (by decide) ?_
  refine lv_istore_n (lv' := [(2, .int (nI 0)), (1, .ref cl), (0, .ref b0)]) hx hb dX6_finish_14 rfl hl (by decide) rfl (fun ls hl => ?_)
  refine W.widen (k := 1 + 14 * 0) (n := 6 + 258 * 0) (by decide) (by decide) ?_
  refine lv_iconst (v := nI 0) hx hb dX6_finish_15 (by decide) ?_
  refine lv_istore_n (lv' := [(3, .int (nI 0)), (2, .int (nI 0)), (1, .ref cl), (0, .ref b0)]) hx hb dX6_finish_16 rfl hl (by decide) rfl (fun ls hl => ?_)
  have loop17 : ∀ (n : Nat) (i : Nat) (tg9 : Nat → Nat) (y9 : mLy) (H9 : Heap) (locs9 : List Loc), (wC (sW M)).1 - i < n → (i ≤ (wC (sW M)).1) → (Core D T dE b0 tg9 H9 A (doN (sE M) (sR M) (wC (sW M)) (sT M) i).2.1 (doN (sE M) (sR M) (wC (sW M)) (sT M) i).2.2 y9 none (sT M)) → (RepC D T dE tg9 H9 (wC (sW M)) cl zc) → (TX tg H tg9) → (FR tg (fun t => t = 1 ∨ CS t) H H9) → (va_S A s.heap H9 locs9) → ∀ (ls : Array Slot), lv_has ls 4 [(3, .int (nI i)), (2, .int (nI ((doN (sE M) (sR M) (wC (sW M)) (sT M) i).1))), (1, .ref cl), (0, .ref b0)] → W p l e (rmL 13 281 5166) s m args below meth c H9 locs9 (1 + 14 * i) (6 + 258 * i) (vx_MQ below (QI A (fun r H1 => (oFinish M).1 = 0 ∧ r = (oFinish M).2.1 ∧ Nx1 D T dE b0 A tg H H1 (sE (oFinish M).2.2) (sR (oFinish M).2.2) none (sT M))) (XX A (XE H (fun E9 => E9 = "java/lang/IllegalStateException" ∧ (oFinish M).1 = 1))) args s 281 5166 A) (F0 m 17 ls []) := by
    intro n
    induction n with
    | zero => intro i tg9 y9 H9 locs9 hfuel; exact absurd hfuel (Nat.not_lt_zero _)
    | succ n ih17 =>
      intro i tg9 y9 H9 locs9 hfuel hi hC9 hc9 hx9 hf9 hS ls hl
      obtain ⟨iE9, iR9, ib9⟩ := doN_inv hI (wC (sW M)) i
      have hX9 := hC9.2.1
      have hdl := doN_le (E := sE M) (R := sR M) (C := wC (sW M)) (t := sT M) i
      refine lv_iload_n hx hb dX6_finish_17 rfl (lv_at hl 0 rfl) ?_
      refine lv_aload_n hx hb dX6_finish_18 rfl (lv_at hl 2 rfl) ?_
      refine k_ip (k_V (As := []) (rest := [.int (nI i)]) ⟨hx, hb, hml, hown, hts⟩ hev hS (c_Jx4a65c_size_8abf5 l hc9.1.1) (cwV 0 hts gX6_finish_Jx4a65c_size_8abf5 rfl rfl rfl (by decide +kernel) ⟨Nat.le_of_ble_eq_true rfl, Nat.le_of_ble_eq_true rfl⟩) (x_recv hK ((hc9.1.1.rec).choose_spec) rfl) rfl hl.1 (Nat.le_of_ble_eq_true rfl) dX6_finish_19 (by show _ ≤ (281 : Nat); omega) (by show _ ≤ (5166 : Nat); omega)) hS hnt hlk (fun _ _ h _ => h.elim) (by show _ ≤ (281 : Nat); omega) (by show _ ≤ (5166 : Nat); omega) (fun rq3_ H3 locs3 hP hz3 hS => ?_)
      refine W.widen (k := 1 + 14 * i) (n := 6 + 258 * i) (Nat.le_refl _) (Nat.le_refl _) ?_
      obtain ⟨eH, er⟩ := hP
      have eH := eH.symm
      subst eH
      refine x_top (y := (nI ((wC (sW M)).1))) (er) ?_
      refine y_icmp_ge hx hb (by omega) (by omega) (tgt := 49) dX6_finish_22 (by decide) (fun c22 => ?_) (fun c22 => ?_)
      · have hiC : i = (wC (sW M)).1 := by omega
        refine lv_iload_n hx hb dX6_finish_49 rfl (lv_at hl 1 rfl) ?_
        exact r_i hx hb hrt9 hlk hS (by omega) (by omega) dX6_finish_50 (by
            have ho9 : oFinish M = _ := if_neg (by rw [hon]; decide)
            rw [ho9]
            rw [hiC] at hC9 ⊢
            exact ⟨rfl, rfl, tg9, y9, hC9, hx9, hf9⟩)
      · have hi2 : i < (wC (sW M)).1 := c22
        obtain ⟨w, hw4, hw9⟩ := iw5 i hi2
        refine lv_aload_n hx hb dX6_finish_25 rfl (lv_at hl 3 rfl) ?_
        refine lv_aload_n hx hb dX6_finish_26 rfl (lv_at hl 2 rfl) ?_
        refine lv_iload_n hx hb dX6_finish_27 rfl (lv_at hl 0 rfl) ?_
        refine k_qp (k_V (As := [.int (nI i)]) (rest := [.ref b0]) ⟨hx, hb, hml, hown, hts⟩ hev hS (c_Jx4a65c_get_915e3 l hc9.1.1 (i := i) (hi2)) (cwV 1 hts gX6_finish_Jx4a65c_get_915e3 rfl rfl rfl (by decide +kernel) ⟨Nat.le_of_ble_eq_true rfl, Nat.le_of_ble_eq_true rfl⟩) (x_recv hK ((hc9.1.1.rec).choose_spec) rfl) rfl hl.1 (Nat.le_of_ble_eq_true rfl) dX6_finish_28 (by show _ ≤ (281 : Nat); omega) (by show _ ≤ (5166 : Nat); omega)) hS hnt hlk (fun _ _ h _ => h.elim) (by show _ ≤ (281 : Nat); omega) (by show _ ≤ (5166 : Nat); omega) (fun rq4_ H4 locs4 hP hz4 hS => ?_)
        refine W.widen (k := 1 + 14 * i) (n := 6 + 258 * i) (Nat.le_refl _) (Nat.le_refl _) ?_
        obtain ⟨eH, er⟩ := hP
        have eH := eH.symm
        subst eH
        refine x_tov (y := .ref ((zc.2.2 i))) (by rw [er]; rfl) ?_
        refine va_castE hx hb hown (hts (.classLink RX6 195 "Archeloft$Command") (by decide +kernel)) (x_recv hK (hc9.2 i hi2).1 rfl) dX6_finish_31 ?_
        refine k_ip (k_VW (As := [.ref ((zc.2.2 i))]) (rest := []) ⟨hx, hb, hml, hown, hts⟩ hev hS (c_X6_couldDo l hst (M := (wER (wW M (false, (0, fun _ => 0, 0), mC0)) (doN (sE M) (sR M) (wC (sW M)) (sT M) i).2.1 (doN (sE M) (sR M) (wC (sW M)) (sT M) i).2.2)) hC9 iE9 iR9 rfl (fun j => Nat.le_trans (ib9 j) (by omega)) rfl (hc9.2 i hi2 |>.1 |> fun h => (by rw [hw9] at h; exact h)) hw4) (vx_cwVW 1 hts gX6_finish_X6_couldDo rfl rfl rfl (by decide +kernel) ⟨Nat.le_of_ble_eq_true rfl, Nat.le_of_ble_eq_true rfl⟩) (x_recv hK hX9.1 rfl) rfl hl.1 (Nat.le_of_ble_eq_true rfl) dX6_finish_34 (by show _ ≤ (281 : Nat); omega) (by show _ ≤ (5166 : Nat); omega)) hS hnt hlk (fun _ _ h _ => h.elim) (by show _ ≤ (281 : Nat); omega) (by show _ ≤ (5166 : Nat); omega) (fun rq5_ H5 locs5 hP hz5 hS => ?_)
        obtain ⟨er7, tg8, y8, hC8, x8, f8⟩ := hP
        refine x_top (y := (bI ((doC (doN (sE M) (sR M) (wC (sW M)) (sT M) i).2.1 (doN (sE M) (sR M) (wC (sW M)) (sT M) i).2.2 (sT M) ((wC (sW M)).2.1 i) ((wC (sW M)).2.2.1 i) ((wC (sW M)).2.2.2.1 i) ((wC (sW M)).2.2.2.2 i)).1))) (by rw [hw9]; exact er7) ?_
        have hC8 : Core D T dE b0 tg8 H5 A (doN (sE M) (sR M) (wC (sW M)) (sT M) (i + 1)).2.1 (doN (sE M) (sR M) (wC (sW M)) (sT M) (i + 1)).2.2 y8 none (sT M) := by
          show Core D T dE b0 tg8 H5 A (doC (doN (sE M) (sR M) (wC (sW M)) (sT M) i).2.1 (doN (sE M) (sR M) (wC (sW M)) (sT M) i).2.2 (sT M) ((wC (sW M)).2.1 i) ((wC (sW M)).2.2.1 i) ((wC (sW M)).2.2.2.1 i) ((wC (sW M)).2.2.2.2 i)).2.1 (doC (doN (sE M) (sR M) (wC (sW M)) (sT M) i).2.1 (doN (sE M) (sR M) (wC (sW M)) (sT M) i).2.2 (sT M) ((wC (sW M)).2.1 i) ((wC (sW M)).2.2.1 i) ((wC (sW M)).2.2.2.1 i) ((wC (sW M)).2.2.2.2 i)).2.2 y8 none (sT M)
          rw [hw9]; exact hC8
        have hc8 := hc9.kept x8 f8 (by unfold CS; omega) (by unfold CS; omega) (by unfold CS; omega) (by unfold CS; omega)
        have hx8 := hx9.tr x8 hf9.1
        have hf8 := hf9.tr hx9 (f8.wk (fun t z => Or.inr z))
        refine y_bif_eq hx hb (tgt := 43) dX6_finish_37 (by decide) (fun c37 => ?_) (fun c37 => ?_)
        · refine W.widen (k := 1 + 14 * (i + 1)) (n := 6 + 258 * (i + 1)) (by omega) (by omega) ?_
          have hl : lv_has ls 4 [(3, .int (nI i)), (2, .int (nI ((doN (sE M) (sR M) (wC (sW M)) (sT M) (i + 1)).1))), (1, .ref cl), (0, .ref b0)] := by
            have e9 : (nI ((doN (sE M) (sR M) (wC (sW M)) (sT M) i).1)) = (nI ((doN (sE M) (sR M) (wC (sW M)) (sT M) (i + 1)).1)) := by rw [doN_f c37]
            rw [← e9]; exact hl
          refine lv_iinc (v := (nI (i + 1))) (lv' := [(3, .int (nI (i + 1))), (2, .int (nI ((doN (sE M) (sR M) (wC (sW M)) (sT M) (i + 1)).1))), (1, .ref cl), (0, .ref b0)]) hx hb dX6_finish_43 hl (k := 0) rfl (nI_inc _) (by decide) rfl (fun ls hl => ?_)
          refine lv_goto (tgt := 17) hx hb dX6_finish_46 (by decide) ?_
          exact ih17 (i + 1) tg8 y8 H5 locs5 (by omega) (by omega) hC8 hc8 hx8 hf8 hS ls (lv_sub hl [0, 1, 2, 3] rfl)
        · refine lv_iinc (v := (nI ((doN (sE M) (sR M) (wC (sW M)) (sT M) i).1 + 1))) (lv' := [(2, .int (nI ((doN (sE M) (sR M) (wC (sW M)) (sT M) i).1 + 1))), (3, .int (nI i)), (1, .ref cl), (0, .ref b0)]) hx hb dX6_finish_40 hl (k := 1) rfl (nI_inc _) (by decide) rfl (fun ls hl => ?_)
          refine W.widen (k := 1 + 14 * (i + 1)) (n := 6 + 258 * (i + 1)) (by omega) (by omega) ?_
          have hl : lv_has ls 4 [(2, .int (nI ((doN (sE M) (sR M) (wC (sW M)) (sT M) (i + 1)).1))), (3, .int (nI i)), (1, .ref cl), (0, .ref b0)] := by
            have e9 : (nI ((doN (sE M) (sR M) (wC (sW M)) (sT M) i).1 + 1)) = (nI ((doN (sE M) (sR M) (wC (sW M)) (sT M) (i + 1)).1)) := by rw [doN_t c37]
            rw [← e9]; exact hl
          refine lv_iinc (v := (nI (i + 1))) (lv' := [(3, .int (nI (i + 1))), (2, .int (nI ((doN (sE M) (sR M) (wC (sW M)) (sT M) (i + 1)).1))), (1, .ref cl), (0, .ref b0)]) hx hb dX6_finish_43 hl (k := 1) rfl (nI_inc _) (by decide) rfl (fun ls hl => ?_)
          refine lv_goto (tgt := 17) hx hb dX6_finish_46 (by decide) ?_
          exact ih17 (i + 1) tg8 y8 H5 locs5 (by omega) (by omega) hC8 hc8 hx8 hf8 hS ls (lv_sub hl [0, 1, 2, 3] rfl)
  exact loop17 (((wC (sW M)).1 - 0) + 1) 0 tg y H2 locs2 (Nat.lt_succ_self _) (Nat.zero_le _) hC1 hc1 TX.rf (f1.wk (fun t z => Or.inl z)) hS ls (lv_sub hl [0, 1, 2, 3] rfl)

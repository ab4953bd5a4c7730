set_option maxRecDepth 100000 in
theorem in_X2_isAnsweredBy_RX2 : ∀ w ∈ wsX20, w ∈ wsX2_isAnsweredBy := by decide +kernel
set_option maxHeartbeats 4000000 in
set_option maxRecDepth 100000 in
theorem c_X2_isAnsweredBy (l : Launch) {D : va_G} {T : Nat → ClassId} {dE mi : Nat} {A : Nat → Prop} {H : Heap} {a al no an d : Nat} (ho : oc D H a 5 [.int (nI al), .int (nI no), .int (nI an)]) (ha6 : al < 64) (ho6 : no < 64) (hy6 : an < 64) (hd : d < 64) : vx_Met l yX2_isAnsweredBy wsX2_isAnsweredBy (rmL 0 0 0) (PcE D T dE mi A H [.ref a, .int (nI d)]) (QI A (fun r H1 => H1 = H ∧ r = bI (ansB al no an d))) (XX A (XN)) 0 0 A := by
  refine entry (cc := cX2_isAnsweredBy) (maxL := 2) (ret := (some .boolean)) (by decide) rfl (Nat.le_of_ble_eq_true rfl) ?_
  intro p e s m args below meth c hx hb hrt9 hml hown hts hlk hnt hnm hev hS ls hl
  have hown : s.vm.findClass RX2 = some m.cls := hown
  have hK := hev.1
  have hl : lv_has ls 2 [(0, .ref a), (1, .int (nI d))] := hl
  refine lv_iload_n hx hb dX2_isAnsweredBy_0 rfl (lv_at hl 1 rfl) ?_
  refine lv_aload_n hx hb dX2_isAnsweredBy_1 rfl (lv_at hl 0 rfl) ?_
  refine x_get (C := RX2) (TT := TX2) (N := 3) (ci := 5) (v := .int (nI al)) hx hb hts in_X2_isAnsweredBy_RX2 hown hK (ho) rfl 0 (by decide) (hts (.fieldLink RX2 9 "Archeloft$Question" "all" "I") (by decide +kernel)) (fun _ h9 => h9) rfl dX2_isAnsweredBy_2 ?_
  refine lv_iand hx hb dX2_isAnsweredBy_5 ?_
  refine lv_aload_n hx hb dX2_isAnsweredBy_6 rfl (lv_at hl 0 rfl) ?_
  refine x_get (C := RX2) (TT := TX2) (N := 3) (ci := 5) (v := .int (nI al)) hx hb hts in_X2_isAnsweredBy_RX2 hown hK (ho) rfl 0 (by decide) (hts (.fieldLink RX2 9 "Archeloft$Question" "all" "I") (by decide +kernel)) (fun _ h9 => h9) rfl dX2_isAnsweredBy_7 ?_
  refine lv_icmp_ne (tgt := 42) hx hb dX2_isAnsweredBy_10 (by decide) (fun c10 => ?_) (fun c10 => ?_)
  · have s1 := subB_f hd ha6 c10
    have z : ansB al no an d = false := by simp [ansB, s1]
    refine lv_iconst (v := nI 0) hx hb dX2_isAnsweredBy_42 (by decide) ?_
    exact r_z hx hb hrt9 hlk hS (Nat.le_of_ble_eq_true rfl) (Nat.le_of_ble_eq_true rfl) dX2_isAnsweredBy_43 rfl (⟨rfl, by rw [z]; rfl⟩)
  · have s1 := (bit_sub d hd al ha6).mp c10
    refine lv_iload_n hx hb dX2_isAnsweredBy_13 rfl (lv_at hl 1 rfl) ?_
    refine lv_aload_n hx hb dX2_isAnsweredBy_14 rfl (lv_at hl 0 rfl) ?_
    refine x_get (C := RX2) (TT := TX2) (N := 3) (ci := 5) (v := .int (nI no)) hx hb hts in_X2_isAnsweredBy_RX2 hown hK (ho) rfl 1 (by decide) (hts (.fieldLink RX2 15 "Archeloft$Question" "none" "I") (by decide +kernel)) (fun _ h9 => h9) rfl dX2_isAnsweredBy_15 ?_
    refine lv_iand hx hb dX2_isAnsweredBy_18 ?_
    refine lv_if_ne (tgt := 42) hx hb dX2_isAnsweredBy_19 (by decide) (fun c19 => ?_) (fun c19 => ?_)
    · have s2 := disB_f hd ho6 c19
      have z : ansB al no an d = false := by simp [ansB, s2]
      refine lv_iconst (v := nI 0) hx hb dX2_isAnsweredBy_42 (by decide) ?_
      exact r_z hx hb hrt9 hlk hS (Nat.le_of_ble_eq_true rfl) (Nat.le_of_ble_eq_true rfl) dX2_isAnsweredBy_43 rfl (⟨rfl, by rw [z]; rfl⟩)
    · have s2 := (bit_dis0 hd ho6).mp c19
      refine lv_aload_n hx hb dX2_isAnsweredBy_22 rfl (lv_at hl 0 rfl) ?_
      refine x_get (C := RX2) (TT := TX2) (N := 3) (ci := 5) (v := .int (nI an)) hx hb hts in_X2_isAnsweredBy_RX2 hown hK (ho) rfl 2 (by decide) (hts (.fieldLink RX2 18 "Archeloft$Question" "any" "I") (by decide +kernel)) (fun _ h9 => h9) rfl dX2_isAnsweredBy_23 ?_
      refine y_if_eq hx hb (by omega) (tgt := 38) dX2_isAnsweredBy_26 (by decide) (fun c26 => ?_) (fun c26 => ?_)
      · have z : ansB al no an d = true := by simp [ansB, s1, s2, c26]
        refine lv_iconst (v := nI 1) hx hb dX2_isAnsweredBy_38 (by decide) ?_
        refine lv_goto (tgt := 43) hx hb dX2_isAnsweredBy_39 (by decide) ?_
        exact r_z hx hb hrt9 hlk hS (Nat.le_of_ble_eq_true rfl) (Nat.le_of_ble_eq_true rfl) dX2_isAnsweredBy_43 rfl (⟨rfl, by rw [z]; rfl⟩)
      · refine lv_iload_n hx hb dX2_isAnsweredBy_29 rfl (lv_at hl 1 rfl) ?_
        refine lv_aload_n hx hb dX2_isAnsweredBy_30 rfl (lv_at hl 0 rfl) ?_
        refine x_get (C := RX2) (TT := TX2) (N := 3) (ci := 5) (v := .int (nI an)) hx hb hts in_X2_isAnsweredBy_RX2 hown hK (ho) rfl 2 (by decide) (hts (.fieldLink RX2 18 "Archeloft$Question" "any" "I") (by decide +kernel)) (fun _ h9 => h9) rfl dX2_isAnsweredBy_31 ?_
        refine lv_iand hx hb dX2_isAnsweredBy_34 ?_
        refine lv_if_eq (tgt := 42) hx hb dX2_isAnsweredBy_35 (by decide) (fun c35 => ?_) (fun c35 => ?_)
        · have s3 := (bit_dis0 hd hy6).mp c35
          have z : ansB al no an d = false := by simp [ansB, s3, c26]
          refine lv_iconst (v := nI 0) hx hb dX2_isAnsweredBy_42 (by decide) ?_
          exact r_z hx hb hrt9 hlk hS (Nat.le_of_ble_eq_true rfl) (Nat.le_of_ble_eq_true rfl) dX2_isAnsweredBy_43 rfl (⟨rfl, by rw [z]; rfl⟩)
        · have s3 := disB_f hd hy6 c35
          have z : ansB al no an d = true := by simp [ansB, s1, s2, s3]
          refine lv_iconst (v := nI 1) hx hb dX2_isAnsweredBy_38 (by decide) ?_
          refine lv_goto (tgt := 43) hx hb dX2_isAnsweredBy_39 (by decide) ?_
          exact r_z hx hb hrt9 hlk hS (Nat.le_of_ble_eq_true rfl) (Nat.le_of_ble_eq_true rfl) dX2_isAnsweredBy_43 rfl (⟨rfl, by rw [z]; rfl⟩)
def barC (r1 w1 r2 w2 : Nat) : Bool := !(disB w1 (r2 ||| w2)) || !(disB w2 (r1 ||| w1))
set_option maxRecDepth 100000 in
theorem in_X4_bars_RX4 : ∀ w ∈ wsX40, w ∈ wsX4_bars := by decide +kernel
set_option maxHeartbeats 4000000 in
set_option maxRecDepth 100000 in
theorem c_X4_bars (l : Launch) {D : va_G} {T : Nat → ClassId} {dE mi : Nat} {A : Nat → Prop} {H : Heap} {a r1 w1 : Nat} {sg : Int32} (ho : oc D H a 7 [.int (nI r1), .int (nI w1), .int sg]) (a1 : r1 < 64) (a2 : w1 < 64) {r2 w2 : Nat} (a3 : r2 < 64) (a4 : w2 < 64) : vx_Met l yX4_bars wsX4_bars (rmL 0 0 0) (PcE D T dE mi A H [.ref a, .int (nI r2), .int (nI w2)]) (QI A (fun r H1 => H1 = H ∧ r = bI (barC r1 w1 r2 w2))) (XX A (XN)) 0 0 A := by
  refine entry (cc := cX4_bars) (maxL := 3) (ret := (some .boolean)) (by decide) rfl (Nat.le_of_ble_eq_true rfl) ?_
  intro p e s m args below meth c hx hb hrt9 hml hown hts hlk hnt hnm hev hS ls hl
  have hown : s.vm.findClass RX4 = some m.cls := hown
  have hK := hev.1
  have hl : lv_has ls 3 [(0, .ref a), (1, .int (nI r2)), (2, .int (nI w2))] := hl
  refine lv_aload_n hx hb dX4_bars_0 rfl (lv_at hl 0 rfl) ?_
  refine x_get (C := RX4) (TT := TX4) (N := 3) (ci := 7) (v := .int (nI w1)) hx hb hts in_X4_bars_RX4 hown hK (ho) rfl 1 (by decide) (hts (.fieldLink RX4 15 "Archeloft$StagedSystem" "writes" "I") (by decide +kernel)) (fun _ h9 => h9) rfl dX4_bars_1 ?_
  refine lv_iload_n hx hb dX4_bars_4 rfl (lv_at hl 1 rfl) ?_
  refine lv_iload_n hx hb dX4_bars_5 rfl (lv_at hl 2 rfl) ?_
  refine lv_ior hx hb dX4_bars_6 ?_
  refine x_top (y := (nI ((r2 ||| w2)))) ((bit_or r2 a3 w2 a4).1) ?_
  refine lv_iand hx hb dX4_bars_7 ?_
  refine lv_if_ne (tgt := 25) hx hb dX4_bars_8 (by decide) (fun c8 => ?_) (fun c8 => ?_)
  · have s1 := disB_f a2 (bit_or r2 a3 w2 a4).2 c8
    have z : barC r1 w1 r2 w2 = true := by simp [barC, s1]
    refine lv_iconst (v := nI 1) hx hb dX4_bars_25 (by decide) ?_
    refine lv_goto (tgt := 30) hx hb dX4_bars_26 (by decide) ?_
    exact r_z hx hb hrt9 hlk hS (Nat.le_of_ble_eq_true rfl) (Nat.le_of_ble_eq_true rfl) dX4_bars_30 rfl (⟨rfl, by rw [z]; rfl⟩)
  · have s1 := (bit_dis0 a2 (bit_or r2 a3 w2 a4).2).mp c8
    refine lv_iload_n hx hb dX4_bars_11 rfl (lv_at hl 2 rfl) ?_
    refine lv_aload_n hx hb dX4_bars_12 rfl (lv_at hl 0 rfl) ?_
    refine x_get (C := RX4) (TT := TX4) (N := 3) (ci := 7) (v := .int (nI r1)) hx hb hts in_X4_bars_RX4 hown hK (ho) rfl 0 (by decide) (hts (.fieldLink RX4 9 "Archeloft$StagedSystem" "reads" "I") (by decide +kernel)) (fun _ h9 => h9) rfl dX4_bars_13 ?_
    refine lv_aload_n hx hb dX4_bars_16 rfl (lv_at hl 0 rfl) ?_
    refine x_get (C := RX4) (TT := TX4) (N := 3) (ci := 7) (v := .int (nI w1)) hx hb hts in_X4_bars_RX4 hown hK (ho) rfl 1 (by decide) (hts (.fieldLink RX4 15 "Archeloft$StagedSystem" "writes" "I") (by decide +kernel)) (fun _ h9 => h9) rfl dX4_bars_17 ?_
    refine lv_ior hx hb dX4_bars_20 ?_
    refine x_top (y := (nI ((r1 ||| w1)))) ((bit_or r1 a1 w1 a2).1) ?_
    refine lv_iand hx hb dX4_bars_21 ?_
    refine lv_if_eq (tgt := 29) hx hb dX4_bars_22 (by decide) (fun c22 => ?_) (fun c22 => ?_)
    · have s2 := (bit_dis0 a4 (bit_or r1 a1 w1 a2).2).mp c22
      have z : barC r1 w1 r2 w2 = false := by simp [barC, s1, s2]
      refine lv_iconst (v := nI 0) hx hb dX4_bars_29 (by decide) ?_
      exact r_z hx hb hrt9 hlk hS (Nat.le_of_ble_eq_true rfl) (Nat.le_of_ble_eq_true rfl) dX4_bars_30 rfl (⟨rfl, by rw [z]; rfl⟩)
    · have s2 := disB_f a4 (bit_or r1 a1 w1 a2).2 c22
      have z : barC r1 w1 r2 w2 = true := by simp [barC, s2]
      refine lv_iconst (v := nI 1) hx hb dX4_bars_25 (by decide) ?_
      refine lv_goto (tgt := 30) hx hb dX4_bars_26 (by decide) ?_
      exact r_z hx hb hrt9 hlk hS (Nat.le_of_ble_eq_true rfl) (Nat.le_of_ble_eq_true rfl) dX4_bars_30 rfl (⟨rfl, by rw [z]; rfl⟩)
set_option maxRecDepth 100000 in
theorem in_X4_isFor_RX4 : ∀ w ∈ wsX40, w ∈ wsX4_isFor := by decide +kernel
set_option maxHeartbeats 4000000 in
set_option maxRecDepth 100000 in
theorem c_X4_isFor (l : Launch) {D : va_G} {T : Nat → ClassId} {dE mi : Nat} {A : Nat → Prop} {H : Heap} {a r1 w1 : Nat} {sg : Int32} (ho : oc D H a 7 [.int (nI r1), .int (nI w1), .int sg]) (a1 : r1 < 64) (a2 : w1 < 64) {d : Nat} (hd : d < 64) : vx_Met l yX4_isFor wsX4_isFor (rmL 0 0 0) (PcE D T dE mi A H [.ref a, .int (nI d)]) (QI A (fun r H1 => H1 = H ∧ r = bI (subB d (r1 ||| w1)))) (XX A (XN)) 0 0 A := by
  refine entry (cc := cX4_isFor) (maxL := 3) (ret := (some .boolean)) (by decide) rfl (Nat.le_of_ble_eq_true rfl) ?_
  intro p e s m args below meth c hx hb hrt9 hml hown hts hlk hnt hnm hev hS ls hl
  have hown : s.vm.findClass RX4 = some m.cls := hown
  have hK := hev.1
  have hl : lv_has ls 3 [(0, .ref a), (1, .int (nI d))] := hl
  refine lv_aload_n hx hb dX4_isFor_0 rfl (lv_at hl 0 rfl) ?_
  refine x_get (C := RX4) (TT := TX4) (N := 3) (ci := 7) (v := .int (nI r1)) hx hb hts in_X4_isFor_RX4 hown hK (ho) rfl 0 (by decide) (hts (.fieldLink RX4 9 "Archeloft$StagedSystem" "reads" "I") (by decide +kernel)) (fun _ h9 => h9) rfl dX4_isFor_1 ?_
  refine lv_aload_n hx hb dX4_isFor_4 rfl (lv_at hl 0 rfl) ?_
  refine x_get (C := RX4) (TT := TX4) (N := 3) (ci := 7) (v := .int (nI w1)) hx hb hts in_X4_isFor_RX4 hown hK (ho) rfl 1 (by decide) (hts (.fieldLink RX4 15 "Archeloft$StagedSystem" "writes" "I") (by decide +kernel)) (fun _ h9 => h9) rfl dX4_isFor_5 ?_
  refine lv_ior hx hb dX4_isFor_8 ?_
  refine x_top (y := (nI ((r1 ||| w1)))) ((bit_or r1 a1 w1 a2).1) ?_
  refine lv_istore_n (lv' := [(2, .int (nI ((r1 ||| w1)))), (0, .ref a), (1, .int (nI d))]) hx hb dX4_isFor_9 rfl hl (by decide) rfl (fun ls hl => ?_)
  refine lv_iload_n hx hb dX4_isFor_10 rfl (lv_at hl 2 rfl) ?_
  refine lv_iload_n hx hb dX4_isFor_11 rfl (lv_at hl 0 rfl) ?_
  refine lv_iand hx hb dX4_isFor_12 ?_
  refine lv_iload_n hx hb dX4_isFor_13 rfl (lv_at hl 0 rfl) ?_
  refine lv_icmp_ne (tgt := 21) hx hb dX4_isFor_14 (by decide) (fun c14 => ?_) (fun c14 => ?_)
  · have s1 := subB_f hd (bit_or r1 a1 w1 a2).2 c14
    refine lv_iconst (v := nI 0) hx hb dX4_isFor_21 (by decide) ?_
    exact r_z hx hb hrt9 hlk hS (Nat.le_of_ble_eq_true rfl) (Nat.le_of_ble_eq_true rfl) dX4_isFor_22 rfl (⟨rfl, by rw [s1]; rfl⟩)
  · have s1 := (bit_sub d hd _ (bit_or r1 a1 w1 a2).2).mp c14
    refine lv_iconst (v := nI 1) hx hb dX4_isFor_17 (by decide) ?_
    refine lv_goto (tgt := 22) hx hb dX4_isFor_18 (by decide) ?_
    exact r_z hx hb hrt9 hlk hS (Nat.le_of_ble_eq_true rfl) (Nat.le_of_ble_eq_true rfl) dX4_isFor_22 rfl (⟨rfl, by rw [s1]; rfl⟩)
theorem wkV_n {wr n : Nat} {sm : Int32} {f : Nat → Int32} : wkV wr sm f n n = f n := if_neg (fun z => absurd z.1 (Nat.lt_irrefl n))
theorem wkV_0 {wr : Nat} {sm : Int32} {f : Nat → Int32} : wkV wr sm f 0 = f := by funext j; exact if_neg (fun z => absurd z.1 (Nat.not_lt_zero j))
theorem wkM_0 {wr : Nat} {t : Int32} {f : Nat → Int32} : wkM wr t f 0 = f := by funext j; exact if_neg (fun z => absurd z.1 (Nat.not_lt_zero j))
theorem wkV_t {wr n : Nat} {sm : Int32} {f : Nat → Int32} (h : bitS wr n = true) : upd (wkV wr sm f n) n (f n + sm) = wkV wr sm f (n + 1) := by rw [wkV_s, if_pos h]; rfl
theorem wkM_t {wr n : Nat} {t : Int32} {f : Nat → Int32} (h : bitS wr n = true) : upd (wkM wr t f n) n t = wkM wr t f (n + 1) := by rw [wkM_s, if_pos h]; rfl
theorem wkV_f {wr n : Nat} {sm : Int32} {f : Nat → Int32} (h : bitS wr n = false) : wkV wr sm f (n + 1) = wkV wr sm f n := by rw [wkV_s, if_neg (by rw [h]; decide)]
theorem wkM_f {wr n : Nat} {t : Int32} {f : Nat → Int32} (h : bitS wr n = false) : wkM wr t f (n + 1) = wkM wr t f n := by rw [wkM_s, if_neg (by rw [h]; decide)]
theorem has2_t {n i : Nat} (hn : n < 64) (hi : i < 6) (h : ¬ nI n &&& (nI 1 <<< (nI i &&& 31)) = 0) : bitS n i = true := by
  cases q : bitS n i with
  | true => rfl
  | false => exact absurd ((bit_has2 n hn i hi).mpr q) h
theorem has2_f {n i : Nat} (hn : n < 64) (hi : i < 6) (h : nI n &&& (nI 1 <<< (nI i &&& 31)) = 0) : bitS n i = false := (bit_has2 n hn i hi).mp h
set_option maxRecDepth 100000 in
theorem in_X4_workOn_RX1 : ∀ w ∈ wsX10, w ∈ wsX4_workOn := by decide +kernel
set_option maxRecDepth 100000 in
theorem in_X4_workOn_RX4 : ∀ w ∈ wsX40, w ∈ wsX4_workOn := by decide +kernel
set_option maxHeartbeats 4000000 in
set_option maxRecDepth 100000 in
theorem c_X4_workOn (l : Launch) {D : va_G} {T : Nat → ClassId} {dE mi : Nat} {A : Nat → Prop} {H : Heap} {a r1 w1 : Nat} {sg : Int32} (ho : oc D H a 7 [.int (nI r1), .int (nI w1), .int sg]) (a1 : r1 < 64) (a2 : w1 < 64) {en va ma nn : Nat} {hh t : Int32} {tt : Bool} {pp : Option Nat} (he : oc D H en 4 [.ref va, .ref ma, .int hh, .int (bI tt), va_rf pp, .int (nI nn)]) {fv fm : Nat → Int32} (hv : ic (T 0) H va 6 fv) (hm : ic (T 0) H ma 6 fm) (hvm : va ≠ ma) (hAv : A va) (hAm : A ma) (hav : va ≠ en ∧ ma ≠ en) (haa : va ≠ a ∧ ma ≠ a) : vx_Met l yX4_workOn wsX4_workOn (rmL 1 0 0) (PcE D T dE mi A H [.ref a, .ref en, .int t]) (QI A (fun r H1 => r = nI (cntK w1 6) ∧ ic (T 0) H1 va 6 (wkV w1 (sumK r1 fv 6) fv 6) ∧ ic (T 0) H1 ma 6 (wkM w1 t fm 6) ∧ H1.size = H.size ∧ ∀ q : Nat, q ≠ va → q ≠ ma → H1[q]? = H[q]?)) (XX A (XN)) 0 0 A := by
  refine entry (cc := cX4_workOn) (maxL := 6) (ret := (some .int)) (by decide) rfl (Nat.le_of_ble_eq_true rfl) ?_
  intro p e s m args below meth c hx hb hrt9 hml hown hts hlk hnt hnm hev hS ls hl
  have hown : s.vm.findClass RX4 = some m.cls := hown
  have hK := hev.1
  have hl : lv_has ls 6 [(0, .ref a), (1, .ref en), (2, .int t)] := hl
  refine lv_iconst (v := nI 1) hx hb dX4_workOn_0 (by decide) ?_
  refine lv_istore_n (lv' := [(3, .int (nI 1)), (0, .ref a), (1, .ref en), (2, .int t)]) hx hb dX4_workOn_1 rfl hl (by decide) rfl (fun ls hl => ?_)
  refine lv_iconst (v := nI 0) hx hb dX4_workOn_2 (by decide) ?_
  refine lv_istore (lv' := [(4, .int (nI 0)), (3, .int (nI 1)), (0, .ref a), (1, .ref en), (2, .int t)]) hx hb dX4_workOn_3 hl (by decide) rfl (fun ls hl => ?_)
  have loop5 : ∀ (n : Nat) (i : Nat), 6 - i < n → (i ≤ 6) → ∀ (ls : Array Slot), lv_has ls 6 [(4, .int (nI i)), (3, .int ((sumK r1 fv i))), (0, .ref a), (1, .ref en), (2, .int t)] → W p l e (rmL 1 0 0) s m args below meth c H [] (0) (0) (vx_MQ below (QI A (fun r H1 => r = nI (cntK w1 6) ∧ ic (T 0) H1 va 6 (wkV w1 (sumK r1 fv 6) fv 6) ∧ ic (T 0) H1 ma 6 (wkM w1 t fm 6) ∧ H1.size = H.size ∧ ∀ q : Nat, q ≠ va → q ≠ ma → H1[q]? = H[q]?)) (XX A (XN)) args s 0 0 A) (F0 m 5 ls []) := by
    intro n
    induction n with
    | zero => intro i hfuel; exact absurd hfuel (Nat.not_lt_zero _)
    | succ n ih5 =>
      intro i hfuel hi ls hl
      refine lv_iload hx hb dX4_workOn_5 (lv_at hl 0 rfl) ?_
      refine lv_bipush (v := nI 6) hx hb dX4_workOn_7 (by decide) ?_
      refine y_icmp_ge hx hb (by omega) (Nat.le_of_ble_eq_true rfl) (tgt := 40) dX4_workOn_9 (by decide) (fun c9 => ?_) (fun c9 => ?_)
      · have hl : lv_has ls 6 [(4, .int (nI i)), (3, .int ((sumK r1 fv 6))), (0, .ref a), (1, .ref en), (2, .int t)] := by
          have e9 : ((sumK r1 fv i)) = ((sumK r1 fv 6)) := by rw [show i = 6 by omega]
          rw [← e9]; exact hl
        refine lv_iconst (v := nI 0) hx hb dX4_workOn_40 (by decide) ?_
        refine lv_istore (lv' := [(4, .int (nI 0)), (3, .int ((sumK r1 fv 6))), (0, .ref a), (1, .ref en), (2, .int t)]) hx hb dX4_workOn_41 hl (by decide) rfl (fun ls hl => ?_)
        refine lv_iconst (v := nI 0) hx hb dX4_workOn_43 (by decide) ?_
        refine lv_istore (lv' := [(5, .int (nI 0)), (4, .int (nI 0)), (3, .int ((sumK r1 fv 6))), (0, .ref a), (1, .ref en), (2, .int t)]) hx hb dX4_workOn_44 hl (by decide) rfl (fun ls hl => ?_)
        have loop46 : ∀ (n : Nat) (i : Nat) (H9 : Heap) (locs9 : List Loc), 6 - i < n → (i ≤ 6) → (ic (T 0) H9 va 6 (wkV w1 (sumK r1 fv 6) fv i)) → (ic (T 0) H9 ma 6 (wkM w1 t fm i)) → (H9.size = H.size) → (∀ q : Nat, q ≠ va → q ≠ ma → H9[q]? = H[q]?) → (va_S A s.heap H9 locs9) → ∀ (ls : Array Slot), lv_has ls 6 [(5, .int (nI i)), (4, .int (nI (cntK w1 i))), (3, .int ((sumK r1 fv 6))), (0, .ref a), (1, .ref en), (2, .int t)] → W p l e (rmL 1 0 0) s m args below meth c H9 locs9 (0) (0) (vx_MQ below (QI A (fun r H1 => r = nI (cntK w1 6) ∧ ic (T 0) H1 va 6 (wkV w1 (sumK r1 fv 6) fv 6) ∧ ic (T 0) H1 ma 6 (wkM w1 t fm 6) ∧ H1.size = H.size ∧ ∀ q : Nat, q ≠ va → q ≠ ma → H1[q]? = H[q]?)) (XX A (XN)) args s 0 0 A) (F0 m 46 ls []) := by
          intro n
          induction n with
          | zero => intro i H9 locs9 hfuel; exact absurd hfuel (Nat.not_lt_zero _)
          | succ n ih46 =>
            intro i H9 locs9 hfuel hi hv9 hm9 hz9 hq9 hS ls hl
            have ho9 := ho.kept (hq9 a (Ne.symm haa.1) (Ne.symm haa.2))
            have he9 := he.kept (hq9 en (Ne.symm hav.1) (Ne.symm hav.2))
            refine lv_iload hx hb dX4_workOn_46 (lv_at hl 0 rfl) ?_
            refine lv_bipush (v := nI 6) hx hb dX4_workOn_48 (by decide) ?_
            refine y_icmp_ge hx hb (by omega) (Nat.le_of_ble_eq_true rfl) (tgt := 90) dX4_workOn_50 (by decide) (fun c50 => ?_) (fun c50 => ?_)
            · refine lv_iload hx hb dX4_workOn_90 (lv_at hl 1 rfl) ?_
              exact r_i hx hb hrt9 hlk hS (Nat.le_of_ble_eq_true rfl) (Nat.le_of_ble_eq_true rfl) dX4_workOn_92 (⟨by rw [show i = 6 by omega], by rw [show i = 6 by omega] at hv9; exact hv9, by rw [show i = 6 by omega] at hm9; exact hm9, hz9, hq9⟩)
            · have hi6 : i < 6 := c50
              refine lv_aload_n hx hb dX4_workOn_53 rfl (lv_at hl 3 rfl) ?_
              refine x_get (C := RX4) (TT := TX4) (N := 3) (ci := 7) (v := .int (nI w1)) hx hb hts in_X4_workOn_RX4 hown hK (ho9) rfl 1 (by decide) (hts (.fieldLink RX4 15 "Archeloft$StagedSystem" "writes" "I") (by decide +kernel)) (fun _ h9 => h9) rfl dX4_workOn_54 ?_
              refine lv_iconst (v := nI 1) hx hb dX4_workOn_57 (by decide) ?_
              refine lv_iload hx hb dX4_workOn_58 (lv_at hl 0 rfl) ?_
              refine lv_ishl hx hb dX4_workOn_60 ?_
              refine lv_iand hx hb dX4_workOn_61 ?_
              refine lv_if_eq (tgt := 84) hx hb dX4_workOn_62 (by decide) (fun c62 => ?_) (fun c62 => ?_)
              · have hbt := has2_f a2 (show i < 6 by omega) c62
                have hl : lv_has ls 6 [(5, .int (nI i)), (4, .int (nI (cntK w1 (i + 1)))), (3, .int ((sumK r1 fv 6))), (0, .ref a), (1, .ref en), (2, .int t)] := by
                  have e9 : (nI (cntK w1 i)) = (nI (cntK w1 (i + 1))) := by rw [cntK_f hbt]
                  rw [← e9]; exact hl
                have hv2 : ic (T 0) H9 va 6 (wkV w1 (sumK r1 fv 6) fv (i + 1)) := by rw [wkV_f hbt]; exact hv9
                have hm2 : ic (T 0) H9 ma 6 (wkM w1 t fm (i + 1)) := by rw [wkM_f hbt]; exact hm9
                have hz2 := hz9
                have hq2 := hq9
                refine lv_iinc (v := (nI (i + 1))) (lv' := [(5, .int (nI (i + 1))), (4, .int (nI (cntK w1 (i + 1)))), (3, .int ((sumK r1 fv 6))), (0, .ref a), (1, .ref en), (2, .int t)]) hx hb dX4_workOn_84 hl (k := 0) rfl (nI_inc _) (by decide) rfl (fun ls hl => ?_)
                refine lv_goto (tgt := 46) hx hb dX4_workOn_87 (by decide) ?_
                exact ih46 (i + 1) H9 locs9 (by omega) (by omega) hv2 hm2 hz2 hq2 hS ls (lv_sub hl [0, 1, 2, 3, 4, 5] rfl)
              · refine lv_aload_n hx hb dX4_workOn_65 rfl (lv_at hl 4 rfl) ?_
                refine lv_iload hx hb dX4_workOn_66 (lv_at hl 0 rfl) ?_
                refine lv_aload_n hx hb dX4_workOn_68 rfl (lv_at hl 4 rfl) ?_
                refine x_getN (C := RX1) (TT := TX1) (N := 6) (ci := 4) (v := .ref va) hx hb hts in_X4_workOn_RX1 hown hK (he9) rfl 0 (by decide) (hev.2.2.2.2.1.2 ("Archeloft$StagedSystem", 21, "Archeloft$Entity", "values", "[I") (by decide +kernel)) (fun _ h9 => h9) rfl dX4_workOn_69 ?_
                refine lv_iload hx hb dX4_workOn_72 (lv_at hl 0 rfl) ?_
                refine x_iald (i := i) hx hb hK hv9 (by omega) (by decide) dX4_workOn_74 ?_
                refine x_tov (y := .int ((fv i))) (by show Value.int (wkV w1 (sumK r1 fv 6) fv i i) = _; rw [wkV_n]) ?_
                refine lv_iload_n hx hb dX4_workOn_75 rfl (lv_at hl 2 rfl) ?_
                refine lv_iadd hx hb dX4_workOn_76 ?_
                refine lv_iload_n hx hb dX4_workOn_77 rfl (lv_at hl 5 rfl) ?_
                refine k_vp (k_V (As := [.int (nI i), .int (((fv i)) + ((sumK r1 fv 6))), .int t]) (rest := []) ⟨hx, hb, hml, hown, hts⟩ hev hS (c_X1_put l he9 hv9 hm9 hvm hAv hAm hav hi6 (fv i + (sumK r1 fv 6)) t) (cwV 3 hts gX4_workOn_X1_put rfl rfl rfl (by decide +kernel) ⟨Nat.le_of_ble_eq_true rfl, Nat.le_of_ble_eq_true rfl⟩) (x_recv hK he9 rfl) rfl hl.1 (Nat.le_of_ble_eq_true rfl) dX4_workOn_78 (Nat.le_of_ble_eq_true rfl) (Nat.le_of_ble_eq_true rfl)) hS hnt hlk (fun _ _ h _ => h.elim) (Nat.le_of_ble_eq_true rfl) (Nat.le_of_ble_eq_true rfl) (fun H1 locs1 hP hz1 hS => ?_)
                refine W.widen (k := 0) (n := 0) (Nat.le_refl _) (Nat.le_refl _) ?_
                obtain ⟨hv3, hm3, ez3, eq3⟩ := hP
                refine lv_iinc (v := (nI (cntK w1 i + 1))) (lv' := [(4, .int (nI (cntK w1 i + 1))), (5, .int (nI i)), (3, .int ((sumK r1 fv 6))), (0, .ref a), (1, .ref en), (2, .int t)]) hx hb dX4_workOn_81 hl (k := 1) rfl (nI_inc _) (by decide) rfl (fun ls hl => ?_)
                have hbt := has2_t a2 (show i < 6 by omega) c62
                have hl : lv_has ls 6 [(4, .int (nI (cntK w1 (i + 1)))), (5, .int (nI i)), (3, .int ((sumK r1 fv 6))), (0, .ref a), (1, .ref en), (2, .int t)] := by
                  have e9 : (nI (cntK w1 i + 1)) = (nI (cntK w1 (i + 1))) := by rw [cntK_t hbt]
                  rw [← e9]; exact hl
                have hv2 : ic (T 0) H1 va 6 (wkV w1 (sumK r1 fv 6) fv (i + 1)) := by rw [← wkV_t hbt]; exact hv3
                have hm2 : ic (T 0) H1 ma 6 (wkM w1 t fm (i + 1)) := by rw [← wkM_t hbt]; exact hm3
                have hz2 := ez3.trans hz9
                have hq2 : ∀ q : Nat, q ≠ va → q ≠ ma → H1[q]? = H[q]? := fun q9 h9 h8 => (eq3 q9 h9 h8).trans (hq9 q9 h9 h8)
                refine lv_iinc (v := (nI (i + 1))) (lv' := [(5, .int (nI (i + 1))), (4, .int (nI (cntK w1 (i + 1)))), (3, .int ((sumK r1 fv 6))), (0, .ref a), (1, .ref en), (2, .int t)]) hx hb dX4_workOn_84 hl (k := 1) rfl (nI_inc _) (by decide) rfl (fun ls hl => ?_)
                refine lv_goto (tgt := 46) hx hb dX4_workOn_87 (by decide) ?_
                exact ih46 (i + 1) H1 locs1 (by omega) (by omega) hv2 hm2 hz2 hq2 hS ls (lv_sub hl [0, 1, 2, 3, 4, 5] rfl)
        exact loop46 (6 + 1) 0 H [] (Nat.lt_succ_self _) (by omega) (by rw [wkV_0]; exact hv) (by rw [wkM_0]; exact hm) rfl (fun _ _ _ => rfl) hS ls (lv_sub hl [0, 1, 2, 3, 4, 5] rfl)
      · have hi6 : i < 6 := c9
        refine lv_aload_n hx hb dX4_workOn_12 rfl (lv_at hl 2 rfl) ?_
        refine x_get (C := RX4) (TT := TX4) (N := 3) (ci := 7) (v := .int (nI r1)) hx hb hts in_X4_workOn_RX4 hown hK (ho) rfl 0 (by decide) (hts (.fieldLink RX4 9 "Archeloft$StagedSystem" "reads" "I") (by decide +kernel)) (fun _ h9 => h9) rfl dX4_workOn_13 ?_
        refine lv_iconst (v := nI 1) hx hb dX4_workOn_16 (by decide) ?_
        refine lv_iload hx hb dX4_workOn_17 (lv_at hl 0 rfl) ?_
        refine lv_ishl hx hb dX4_workOn_19 ?_
        refine lv_iand hx hb dX4_workOn_20 ?_
        refine lv_if_eq (tgt := 34) hx hb dX4_workOn_21 (by decide) (fun c21 => ?_) (fun c21 => ?_)
        · have hl : lv_has ls 6 [(4, .int (nI i)), (3, .int ((sumK r1 fv (i + 1)))), (0, .ref a), (1, .ref en), (2, .int t)] := by
            have e9 : ((sumK r1 fv i)) = ((sumK r1 fv (i + 1))) := by rw [sumK_f (has2_f a1 (by omega) c21)]
            rw [← e9]; exact hl
          refine lv_iinc (v := (nI (i + 1))) (lv' := [(4, .int (nI (i + 1))), (3, .int ((sumK r1 fv (i + 1)))), (0, .ref a), (1, .ref en), (2, .int t)]) hx hb dX4_workOn_34 hl (k := 0) rfl (nI_inc _) (by decide) rfl (fun ls hl => ?_)
          refine lv_goto (tgt := 5) hx hb dX4_workOn_37 (by decide) ?_
          exact ih5 (i + 1) (by omega) (by omega) ls (lv_sub hl [0, 1, 2, 3, 4] rfl)
        · refine lv_iload_n hx hb dX4_workOn_24 rfl (lv_at hl 1 rfl) ?_
          refine lv_aload_n hx hb dX4_workOn_25 rfl (lv_at hl 3 rfl) ?_
          refine x_getN (C := RX1) (TT := TX1) (N := 6) (ci := 4) (v := .ref va) hx hb hts in_X4_workOn_RX1 hown hK (he) rfl 0 (by decide) (hev.2.2.2.2.1.2 ("Archeloft$StagedSystem", 21, "Archeloft$Entity", "values", "[I") (by decide +kernel)) (fun _ h9 => h9) rfl dX4_workOn_26 ?_
          refine lv_iload hx hb dX4_workOn_29 (lv_at hl 0 rfl) ?_
          refine x_iald (i := i) hx hb hK hv (by omega) (by decide) dX4_workOn_31 ?_
          refine lv_iadd hx hb dX4_workOn_32 ?_
          refine lv_istore_n (lv' := [(3, .int (((sumK r1 fv i)) + ((fv i)))), (4, .int (nI i)), (0, .ref a), (1, .ref en), (2, .int t)]) hx hb dX4_workOn_33 rfl hl (by decide) rfl (fun ls hl => ?_)
          have hl : lv_has ls 6 [(3, .int ((sumK r1 fv (i + 1)))), (4, .int (nI i)), (0, .ref a), (1, .ref en), (2, .int t)] := by
            have e9 : (((sumK r1 fv i)) + ((fv i))) = ((sumK r1 fv (i + 1))) := by rw [sumK_t (has2_t a1 (by omega) c21)]
            rw [← e9]; exact hl
          refine lv_iinc (v := (nI (i + 1))) (lv' := [(4, .int (nI (i + 1))), (3, .int ((sumK r1 fv (i + 1)))), (0, .ref a), (1, .ref en), (2, .int t)]) hx hb dX4_workOn_34 hl (k := 1) rfl (nI_inc _) (by decide) rfl (fun ls hl => ?_)
          refine lv_goto (tgt := 5) hx hb dX4_workOn_37 (by decide) ?_
          exact ih5 (i + 1) (by omega) (by omega) ls (lv_sub hl [0, 1, 2, 3, 4] rfl)
  exact loop5 (6 + 1) 0 (Nat.lt_succ_self _) (by omega) ls (lv_sub hl [0, 1, 2, 3, 4] rfl)

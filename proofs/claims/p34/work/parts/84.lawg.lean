theorem bit_xor_t : ∀ d, d < 64 → ∀ q, q < 6 → bitS d q = true → nI d ^^^ (nI 1 <<< (nI q &&& 31)) = nI (clrB d q) ∧ clrB d q < 64 := by decide +kernel
theorem bit_xor_f : ∀ d, d < 64 → ∀ q, q < 6 → bitS d q = false → nI d ^^^ (nI 1 <<< (nI q &&& 31)) = nI (setB d q) ∧ setB d q < 64 := by decide +kernel
/-- what a component's value and mark do to the arrays -/
theorem LTw.put {Y Y1 : Nat → Nat → Int32} {E : mE} {R : mR} {k i : Nat} {v t : Int32} (h : LTw Y E R) (hk : k < 10) (hi : i < 6) (e1 : Y1 1 = Y 1) (e2 : Y1 2 = upd (Y 2) (6 * k + i) v) (e3 : Y1 3 = upd (Y 3) (6 * k + i) t) (e4 : Y1 4 = Y 4) (e9 : Y1 9 0 = Y 9 0) : LTw Y1 (putE E k i v t) R :=
  ⟨h.1.put hk hi e1 e2 e3, h.2.1.cong rfl rfl e9 e4, by rw [e1]; exact h.2.2⟩
set_option maxHeartbeats 4000000 in
set_option maxRecDepth 100000 in
theorem c_L_does (l : Launch) {D : va_G} {T : Nat → ClassId} {dE mi : Nat} {g : Nat} {Y : Nat → Nat → Int32} {H : Heap} (hL : SL T g Y H) {E : mE} {R : mR} (hT : LTw Y E R) (iE : InvE E) (iR : InvR E R) {cw : Nat} (hcw : cw < 4) {o : Option Nat} {h : Int32} (ho : look E h = o) (kd v : Int32) {tk : Int32} (ht : Y 9 1 = tk) (hfr : cw = 3 → free E < 10) : vx_Met l yL_does wsL_does (rmL 3 0 0) (PcE D T dE mi (AS g) H [.int (nI cw), .int (nO o), .int kd, .int v, .ref (g + 1), .ref (g + 2), .ref (g + 3), .ref (g + 4), .ref (g + 9)]) (QI (AS g) (fun r H1 => r = bI (doC E R tk (nI cw) h kd v).1 ∧ ∃ Y1, SL T g Y1 H1 ∧ LTw Y1 (doC E R tk (nI cw) h kd v).2.1 (doC E R tk (nI cw) h kd v).2.2 ∧ (∀ j, j ≠ 1 → j ≠ 2 → j ≠ 3 → j ≠ 4 → j ≠ 9 → Y1 j = Y j) ∧ ∀ i, i ≠ 0 → Y1 9 i = Y 9 i)) (XX (AS g) (XN)) 0 0 (AS g) := by
  refine entry (cc := cL_does) (maxL := 12) (ret := (some .boolean)) (by decide) rfl (Nat.le_of_ble_eq_true rfl) ?_
  intro p e s m args below meth c hx hb hrt9 hml hown hts hlk hnt hnm hev hS ls hl
  have hown : s.vm.findClass RL = some m.cls := hown
  have hK := hev.1
  have hl : lv_has ls 12 [(0, .int (nI cw)), (1, .int (nO o)), (2, .int kd), (3, .int v), (4, .ref (g + 1)), (5, .ref (g + 2)), (6, .ref (g + 3)), (7, .ref (g + 4)), (8, .ref (g + 9))] := hl
  obtain rfl | rfl | rfl | rfl : cw = 0 ∨ cw = 1 ∨ cw = 2 ∨ cw = 3 := by omega
  · have hl : lv_has ls 12 [(0, .int (nI 0)), (1, .int (nO o)), (2, .int kd), (3, .int v), (4, .ref (g + 1)), (5, .ref (g + 2)), (6, .ref (g + 3)), (7, .ref (g + 4)), (8, .ref (g + 9))] := hl
    rcases o with _ | sl
    · have hl : lv_has ls 12 [(0, .int (nI 0)), (1, .int ((-1))), (2, .int kd), (3, .int v), (4, .ref (g + 1)), (5, .ref (g + 2)), (6, .ref (g + 3)), (7, .ref (g + 4)), (8, .ref (g + 9))] := hl
      refine lv_iload_n hx hb dL_does_0 rfl (lv_at hl 2 rfl) ?_
      refine lv_if_lt (tgt := 14) hx hb dL_does_1 (by decide) (fun c1 => ?_) (fun c1 => ?_)
      · have hK9 : isK kd = false := decide_eq_false (fun z => absurd c1 (Int32.not_lt.mpr z.1))
        refine lv_iconst (v := nI 0) hx hb dL_does_14 (by decide) ?_
        refine lv_istore (lv' := [(9, .int (nI 0)), (0, .int (nI 0)), (1, .int ((-1))), (2, .int kd), (3, .int v), (4, .ref (g + 1)), (5, .ref (g + 2)), (6, .ref (g + 3)), (7, .ref (g + 4)), (8, .ref (g + 9))]) hx hb dL_does_15 hl (by decide) rfl (fun ls hl => ?_)
        refine lv_iload_n hx hb dL_does_17 rfl (lv_at hl 1 rfl) ?_
        refine lv_iconst (v := nI 2) hx hb dL_does_18 (by decide) ?_
        refine y_icmp_ne hx hb (by decide) (by decide) (tgt := 33) dL_does_19 (by decide) (fun c19 => ?_) (fun c19 => ?_)
        · refine lv_iload_n hx hb dL_does_33 rfl (lv_at hl 1 rfl) ?_
          refine lv_iconst (v := nI 2) hx hb dL_does_34 (by decide) ?_
          refine y_icmp_ne hx hb (by decide) (by decide) (tgt := 48) dL_does_35 (by decide) (fun c35 => ?_) (fun c35 => ?_)
          · refine lv_iload hx hb dL_does_48 (lv_at hl 0 rfl) ?_
            refine y_if_eq hx hb (by decide) (tgt := 62) dL_does_50 (by decide) (fun c50 => ?_) (fun c50 => ?_)
            · refine lv_iconst (v := nI 0) hx hb dL_does_62 (by decide) ?_
              exact r_z hx hb hrt9 hlk hS (Nat.le_of_ble_eq_true rfl) (Nat.le_of_ble_eq_true rfl) dL_does_63 rfl (by rw [doC_n (w := 0) (by decide) (by decide) ho]; exact ⟨rfl, Y, hL, hT, fun j _ _ _ _ _ => rfl, fun i _ => rfl⟩)
            · exact absurd c50 (by decide)
          · exact absurd c35 (by decide)
        · exact absurd c19 (by decide)
      · obtain ⟨q9, hq31, rfl⟩ := nI_of (x := kd) (fun z => c1 z)
        have hl : lv_has ls 12 [(0, .int (nI 0)), (1, .int ((-1))), (2, .int (nI q9)), (3, .int v), (4, .ref (g + 1)), (5, .ref (g + 2)), (6, .ref (g + 3)), (7, .ref (g + 4)), (8, .ref (g + 9))] := hl
        refine lv_iload_n hx hb dL_does_4 rfl (lv_at hl 2 rfl) ?_
        refine lv_bipush (v := nI 6) hx hb dL_does_5 (by decide) ?_
        refine y_icmp_ge hx hb (by omega) (Nat.le_of_ble_eq_true rfl) (tgt := 14) dL_does_7 (by decide) (fun c7 => ?_) (fun c7 => ?_)
        · have hK9 : isK (nI q9) = false := decide_eq_false (fun z => nI_nlt c7 hq31 z.2)
          refine lv_iconst (v := nI 0) hx hb dL_does_14 (by decide) ?_
          refine lv_istore (lv' := [(9, .int (nI 0)), (0, .int (nI 0)), (1, .int ((-1))), (2, .int (nI q9)), (3, .int v), (4, .ref (g + 1)), (5, .ref (g + 2)), (6, .ref (g + 3)), (7, .ref (g + 4)), (8, .ref (g + 9))]) hx hb dL_does_15 hl (by decide) rfl (fun ls hl => ?_)
          refine lv_iload_n hx hb dL_does_17 rfl (lv_at hl 1 rfl) ?_
          refine lv_iconst (v := nI 2) hx hb dL_does_18 (by decide) ?_
          refine y_icmp_ne hx hb (by decide) (by decide) (tgt := 33) dL_does_19 (by decide) (fun c19 => ?_) (fun c19 => ?_)
          · refine lv_iload_n hx hb dL_does_33 rfl (lv_at hl 1 rfl) ?_
            refine lv_iconst (v := nI 2) hx hb dL_does_34 (by decide) ?_
            refine y_icmp_ne hx hb (by decide) (by decide) (tgt := 48) dL_does_35 (by decide) (fun c35 => ?_) (fun c35 => ?_)
            · refine lv_iload hx hb dL_does_48 (lv_at hl 0 rfl) ?_
              refine y_if_eq hx hb (by decide) (tgt := 62) dL_does_50 (by decide) (fun c50 => ?_) (fun c50 => ?_)
              · refine lv_iconst (v := nI 0) hx hb dL_does_62 (by decide) ?_
                exact r_z hx hb hrt9 hlk hS (Nat.le_of_ble_eq_true rfl) (Nat.le_of_ble_eq_true rfl) dL_does_63 rfl (by rw [doC_n (w := 0) (by decide) (by decide) ho]; exact ⟨rfl, Y, hL, hT, fun j _ _ _ _ _ => rfl, fun i _ => rfl⟩)
              · exact absurd c50 (by decide)
            · exact absurd c35 (by decide)
          · exact absurd c19 (by decide)
        · have hq6 := c7
          have hK9 : isK (nI q9) = true := decide_eq_true ⟨nI_pos' (by omega), nI_lt hq6 (by decide)⟩
          refine lv_iconst (v := nI 1) hx hb dL_does_10 (by decide) ?_
          refine lv_goto (tgt := 15) hx hb dL_does_11 (by decide) ?_
          refine lv_istore (lv' := [(9, .int (nI 1)), (0, .int (nI 0)), (1, .int ((-1))), (2, .int (nI q9)), (3, .int v), (4, .ref (g + 1)), (5, .ref (g + 2)), (6, .ref (g + 3)), (7, .ref (g + 4)), (8, .ref (g + 9))]) hx hb dL_does_15 hl (by decide) rfl (fun ls hl => ?_)
          refine lv_iload_n hx hb dL_does_17 rfl (lv_at hl 1 rfl) ?_
          refine lv_iconst (v := nI 2) hx hb dL_does_18 (by decide) ?_
          refine y_icmp_ne hx hb (by decide) (by decide) (tgt := 33) dL_does_19 (by decide) (fun c19 => ?_) (fun c19 => ?_)
          · refine lv_iload_n hx hb dL_does_33 rfl (lv_at hl 1 rfl) ?_
            refine lv_iconst (v := nI 2) hx hb dL_does_34 (by decide) ?_
            refine y_icmp_ne hx hb (by decide) (by decide) (tgt := 48) dL_does_35 (by decide) (fun c35 => ?_) (fun c35 => ?_)
            · refine lv_iload hx hb dL_does_48 (lv_at hl 0 rfl) ?_
              refine y_if_eq hx hb (by decide) (tgt := 62) dL_does_50 (by decide) (fun c50 => ?_) (fun c50 => ?_)
              · exact absurd c50 (by decide)
              · refine lv_iload_n hx hb dL_does_53 rfl (lv_at hl 1 rfl) ?_
                refine lv_iconst (v := nI 3) hx hb dL_does_54 (by decide) ?_
                refine y_icmp_ge hx hb (by decide) (by decide) (tgt := 64) dL_does_55 (by decide) (fun c55 => ?_) (fun c55 => ?_)
                · exact absurd c55 (by decide)
                · refine lv_iload_n hx hb dL_does_58 rfl (lv_at hl 2 rfl) ?_
                  refine lv_if_ge (tgt := 64) hx hb dL_does_59 (by decide) (fun c59 => ?_) (fun c59 => ?_)
                  · exact absurd c59 (by decide)
                  · refine lv_iconst (v := nI 0) hx hb dL_does_62 (by decide) ?_
                    exact r_z hx hb hrt9 hlk hS (Nat.le_of_ble_eq_true rfl) (Nat.le_of_ble_eq_true rfl) dL_does_63 rfl (by rw [doC_n (w := 0) (by decide) (by decide) ho]; exact ⟨rfl, Y, hL, hT, fun j _ _ _ _ _ => rfl, fun i _ => rfl⟩)
            · exact absurd c35 (by decide)
          · exact absurd c19 (by decide)
    · have hl : lv_has ls 12 [(0, .int (nI 0)), (1, .int (nI sl)), (2, .int kd), (3, .int v), (4, .ref (g + 1)), (5, .ref (g + 2)), (6, .ref (g + 3)), (7, .ref (g + 4)), (8, .ref (g + 9))] := hl
      obtain ⟨hs32, hal, hsh⟩ := look_some ho
      have hs10 := hT.1.2.2.2.2.1 sl hal
      have hx10 := hs10
      have hxal := hal
      have hkd64 := iE.1 sl
      refine lv_iload_n hx hb dL_does_0 rfl (lv_at hl 2 rfl) ?_
      refine lv_if_lt (tgt := 14) hx hb dL_does_1 (by decide) (fun c1 => ?_) (fun c1 => ?_)
      · have hK9 : isK kd = false := decide_eq_false (fun z => absurd c1 (Int32.not_lt.mpr z.1))
        refine lv_iconst (v := nI 0) hx hb dL_does_14 (by decide) ?_
        refine lv_istore (lv' := [(9, .int (nI 0)), (0, .int (nI 0)), (1, .int (nI sl)), (2, .int kd), (3, .int v), (4, .ref (g + 1)), (5, .ref (g + 2)), (6, .ref (g + 3)), (7, .ref (g + 4)), (8, .ref (g + 9))]) hx hb dL_does_15 hl (by decide) rfl (fun ls hl => ?_)
        refine lv_iload_n hx hb dL_does_17 rfl (lv_at hl 1 rfl) ?_
        refine lv_iconst (v := nI 2) hx hb dL_does_18 (by decide) ?_
        refine y_icmp_ne hx hb (by decide) (by decide) (tgt := 33) dL_does_19 (by decide) (fun c19 => ?_) (fun c19 => ?_)
        · refine lv_iload_n hx hb dL_does_33 rfl (lv_at hl 1 rfl) ?_
          refine lv_iconst (v := nI 2) hx hb dL_does_34 (by decide) ?_
          refine y_icmp_ne hx hb (by decide) (by decide) (tgt := 48) dL_does_35 (by decide) (fun c35 => ?_) (fun c35 => ?_)
          · refine lv_iload hx hb dL_does_48 (lv_at hl 0 rfl) ?_
            refine y_if_eq hx hb (by decide) (tgt := 62) dL_does_50 (by decide) (fun c50 => ?_) (fun c50 => ?_)
            · refine lv_iconst (v := nI 0) hx hb dL_does_62 (by decide) ?_
              exact r_z hx hb hrt9 hlk hS (Nat.le_of_ble_eq_true rfl) (Nat.le_of_ble_eq_true rfl) dL_does_63 rfl (by rw [doC_k (w := 0) (by decide) (by decide) (by decide) ho hK9]; exact ⟨rfl, Y, hL, hT, fun j _ _ _ _ _ => rfl, fun i _ => rfl⟩)
            · exact absurd c50 (by decide)
          · exact absurd c35 (by decide)
        · exact absurd c19 (by decide)
      · obtain ⟨q9, hq31, rfl⟩ := nI_of (x := kd) (fun z => c1 z)
        have hl : lv_has ls 12 [(0, .int (nI 0)), (1, .int (nI sl)), (2, .int (nI q9)), (3, .int v), (4, .ref (g + 1)), (5, .ref (g + 2)), (6, .ref (g + 3)), (7, .ref (g + 4)), (8, .ref (g + 9))] := hl
        refine lv_iload_n hx hb dL_does_4 rfl (lv_at hl 2 rfl) ?_
        refine lv_bipush (v := nI 6) hx hb dL_does_5 (by decide) ?_
        refine y_icmp_ge hx hb (by omega) (Nat.le_of_ble_eq_true rfl) (tgt := 14) dL_does_7 (by decide) (fun c7 => ?_) (fun c7 => ?_)
        · have hK9 : isK (nI q9) = false := decide_eq_false (fun z => nI_nlt c7 hq31 z.2)
          refine lv_iconst (v := nI 0) hx hb dL_does_14 (by decide) ?_
          refine lv_istore (lv' := [(9, .int (nI 0)), (0, .int (nI 0)), (1, .int (nI sl)), (2, .int (nI q9)), (3, .int v), (4, .ref (g + 1)), (5, .ref (g + 2)), (6, .ref (g + 3)), (7, .ref (g + 4)), (8, .ref (g + 9))]) hx hb dL_does_15 hl (by decide) rfl (fun ls hl => ?_)
          refine lv_iload_n hx hb dL_does_17 rfl (lv_at hl 1 rfl) ?_
          refine lv_iconst (v := nI 2) hx hb dL_does_18 (by decide) ?_
          refine y_icmp_ne hx hb (by decide) (by decide) (tgt := 33) dL_does_19 (by decide) (fun c19 => ?_) (fun c19 => ?_)
          · refine lv_iload_n hx hb dL_does_33 rfl (lv_at hl 1 rfl) ?_
            refine lv_iconst (v := nI 2) hx hb dL_does_34 (by decide) ?_
            refine y_icmp_ne hx hb (by decide) (by decide) (tgt := 48) dL_does_35 (by decide) (fun c35 => ?_) (fun c35 => ?_)
            · refine lv_iload hx hb dL_does_48 (lv_at hl 0 rfl) ?_
              refine y_if_eq hx hb (by decide) (tgt := 62) dL_does_50 (by decide) (fun c50 => ?_) (fun c50 => ?_)
              · refine lv_iconst (v := nI 0) hx hb dL_does_62 (by decide) ?_
                exact r_z hx hb hrt9 hlk hS (Nat.le_of_ble_eq_true rfl) (Nat.le_of_ble_eq_true rfl) dL_does_63 rfl (by rw [doC_k (w := 0) (by decide) (by decide) (by decide) ho hK9]; exact ⟨rfl, Y, hL, hT, fun j _ _ _ _ _ => rfl, fun i _ => rfl⟩)
              · exact absurd c50 (by decide)
            · exact absurd c35 (by decide)
          · exact absurd c19 (by decide)
        · have hq6 := c7
          have hK9 : isK (nI q9) = true := decide_eq_true ⟨nI_pos' (by omega), nI_lt hq6 (by decide)⟩
          refine lv_iconst (v := nI 1) hx hb dL_does_10 (by decide) ?_
          refine lv_goto (tgt := 15) hx hb dL_does_11 (by decide) ?_
          refine lv_istore (lv' := [(9, .int (nI 1)), (0, .int (nI 0)), (1, .int (nI sl)), (2, .int (nI q9)), (3, .int v), (4, .ref (g + 1)), (5, .ref (g + 2)), (6, .ref (g + 3)), (7, .ref (g + 4)), (8, .ref (g + 9))]) hx hb dL_does_15 hl (by decide) rfl (fun ls hl => ?_)
          refine lv_iload_n hx hb dL_does_17 rfl (lv_at hl 1 rfl) ?_
          refine lv_iconst (v := nI 2) hx hb dL_does_18 (by decide) ?_
          refine y_icmp_ne hx hb (by decide) (by decide) (tgt := 33) dL_does_19 (by decide) (fun c19 => ?_) (fun c19 => ?_)
          · refine lv_iload_n hx hb dL_does_33 rfl (lv_at hl 1 rfl) ?_
            refine lv_iconst (v := nI 2) hx hb dL_does_34 (by decide) ?_
            refine y_icmp_ne hx hb (by decide) (by decide) (tgt := 48) dL_does_35 (by decide) (fun c35 => ?_) (fun c35 => ?_)
            · refine lv_iload hx hb dL_does_48 (lv_at hl 0 rfl) ?_
              refine y_if_eq hx hb (by decide) (tgt := 62) dL_does_50 (by decide) (fun c50 => ?_) (fun c50 => ?_)
              · exact absurd c50 (by decide)
              · refine lv_iload_n hx hb dL_does_53 rfl (lv_at hl 1 rfl) ?_
                refine lv_iconst (v := nI 3) hx hb dL_does_54 (by decide) ?_
                refine y_icmp_ge hx hb (by decide) (by decide) (tgt := 64) dL_does_55 (by decide) (fun c55 => ?_) (fun c55 => ?_)
                · exact absurd c55 (by decide)
                · refine lv_iload_n hx hb dL_does_58 rfl (lv_at hl 2 rfl) ?_
                  refine y_if_ge hx hb (by omega) (tgt := 64) dL_does_59 (by decide) (fun c59 => ?_) (fun c59 => ?_)
                  · refine lv_iload_n hx hb dL_does_64 rfl (lv_at hl 1 rfl) ?_
                    refine lv_iconst (v := nI 3) hx hb dL_does_65 (by decide) ?_
                    refine y_icmp_ne hx hb (by decide) (by decide) (tgt := 81) dL_does_66 (by decide) (fun c66 => ?_) (fun c66 => ?_)
                    · refine lv_iload_n hx hb dL_does_81 rfl (lv_at hl 2 rfl) ?_
                      refine lv_istore (lv' := [(10, .int (nI sl)), (9, .int (nI 1)), (0, .int (nI 0)), (1, .int (nI sl)), (2, .int (nI q9)), (3, .int v), (4, .ref (g + 1)), (5, .ref (g + 2)), (6, .ref (g + 3)), (7, .ref (g + 4)), (8, .ref (g + 9))]) hx hb dL_does_82 hl (by decide) rfl (fun ls hl => ?_)
                      refine lv_aload hx hb dL_does_84 (lv_at hl 6 rfl) ?_
                      refine lv_bipush (v := nI 6) hx hb dL_does_86 (by decide) ?_
                      refine lv_iload hx hb dL_does_88 (lv_at hl 0 rfl) ?_
                      refine y_imul hx hb dL_does_90 ?_
                      refine lv_iconst (v := nI 2) hx hb dL_does_91 (by decide) ?_
                      refine y_iadd hx hb dL_does_92 ?_
                      refine n_ld1 (i := (6 * sl) + 2) hx hb hK hL (by omega) dL_does_93 ?_
                      refine x_top (y := (nI (mKd E sl))) (hT.1.2.2.1 sl hx10 hxal) ?_
                      refine lv_iload_n hx hb dL_does_94 rfl (lv_at hl 4 rfl) ?_
                      refine lv_ishr hx hb dL_does_95 ?_
                      refine lv_iconst (v := nI 1) hx hb dL_does_96 (by decide) ?_
                      refine lv_iand hx hb dL_does_97 ?_
                      refine x_top (y := (bI (bitS (mKd E sl) q9))) (bit_val _ hkd64 q9 hq6) ?_
                      refine lv_iconst (v := nI 1) hx hb dL_does_98 (by decide) ?_
                      refine lv_icmp_ne (tgt := 106) hx hb dL_does_99 (by decide) (fun c99 => ?_) (fun c99 => ?_)
                      · have hbt := bI_n1 c99
                        refine lv_iconst (v := nI 0) hx hb dL_does_106 (by decide) ?_
                        refine lv_istore (lv' := [(11, .int (nI 0)), (10, .int (nI sl)), (9, .int (nI 1)), (0, .int (nI 0)), (1, .int (nI sl)), (2, .int (nI q9)), (3, .int v), (4, .ref (g + 1)), (5, .ref (g + 2)), (6, .ref (g + 3)), (7, .ref (g + 4)), (8, .ref (g + 9))]) hx hb dL_does_107 hl (by decide) rfl (fun ls hl => ?_)
                        refine lv_iload hx hb dL_does_109 (lv_at hl 0 rfl) ?_
                        refine lv_iload_n hx hb dL_does_111 rfl (lv_at hl 3 rfl) ?_
                        refine lv_iconst (v := nI 1) hx hb dL_does_112 (by decide) ?_
                        refine y_icmp_ne hx hb (by decide) (by decide) (tgt := 120) dL_does_113 (by decide) (fun c113 => ?_) (fun c113 => ?_)
                        · refine lv_iconst (v := nI 0) hx hb dL_does_120 (by decide) ?_
                          refine y_icmp_eq hx hb (by decide) (by decide) (tgt := 126) dL_does_121 (by decide) (fun c121 => ?_) (fun c121 => ?_)
                          · refine lv_iload_n hx hb dL_does_126 rfl (lv_at hl 3 rfl) ?_
                            refine lv_iconst (v := nI 1) hx hb dL_does_127 (by decide) ?_
                            refine y_icmp_eq hx hb (by decide) (by decide) (tgt := 156) dL_does_128 (by decide) (fun c128 => ?_) (fun c128 => ?_)
                            · exact absurd c128 (by decide)
                            · refine lv_aload hx hb dL_does_131 (lv_at hl 8 rfl) ?_
                              refine lv_bipush (v := nI 6) hx hb dL_does_133 (by decide) ?_
                              refine lv_iload hx hb dL_does_135 (lv_at hl 1 rfl) ?_
                              refine y_imul hx hb dL_does_137 ?_
                              refine lv_iload_n hx hb dL_does_138 rfl (lv_at hl 5 rfl) ?_
                              refine y_iadd hx hb dL_does_139 ?_
                              refine lv_iload_n hx hb dL_does_140 rfl (lv_at hl 6 rfl) ?_
                              refine n_st2 (i := (6 * sl) + q9) (v := v) hx hb hK hS hL (fun _ h => h) (by omega) dL_does_141 (fun H1 locs1 hL hz1 hq1 hS => ?_)
                              refine lv_aload hx hb dL_does_142 (lv_at hl 9 rfl) ?_
                              refine lv_bipush (v := nI 6) hx hb dL_does_144 (by decide) ?_
                              refine lv_iload hx hb dL_does_146 (lv_at hl 1 rfl) ?_
                              refine y_imul hx hb dL_does_148 ?_
                              refine lv_iload_n hx hb dL_does_149 rfl (lv_at hl 5 rfl) ?_
                              refine y_iadd hx hb dL_does_150 ?_
                              refine lv_aload hx hb dL_does_151 (lv_at hl 11 rfl) ?_
                              refine lv_iconst (v := nI 1) hx hb dL_does_153 (by decide) ?_
                              refine n_ld9 (i := 1) hx hb hK hL (by omega) dL_does_154 ?_
                              refine x_top (y := tk) (by show Y 9 1 = _; exact ht) ?_
                              refine n_st3 (i := (6 * sl) + q9) (v := tk) hx hb hK hS hL (fun _ h => h) (by omega) dL_does_155 (fun H2 locs2 hL hz2 hq2 hS => ?_)
                              obtain ⟨Y6, hL, hy6⟩ : ∃ Y6, SL T g Y6 H2 ∧ Y6 = up2 (up2 Y 2 (upd (Y 2) ((6 * sl) + q9) v)) 3 (upd ((up2 Y 2 (upd (Y 2) ((6 * sl) + q9) v)) 3) ((6 * sl) + q9) tk) := ⟨_, hL, rfl⟩
                              have hT6 : LTw Y6 (putE E sl q9 v tk) R := hT.put hx10 hq6 (by rw [hy6]; rfl) (by rw [hy6]; rfl) (by rw [hy6]; rfl) (by rw [hy6]; rfl) (by rw [hy6]; rfl)
                              have iR6 : InvR (putE E sl q9 v tk) R := put_invR iR _ _ _ _
                              have hj6 : ∀ j, j ≠ 2 → j ≠ 3 → Y6 j = Y j := fun j h2 h3 => by rw [hy6]; simp only [up2, if_neg h2, if_neg h3]
                              refine lv_iload hx hb dL_does_156 (lv_at hl 1 rfl) ?_
                              refine lv_aload hx hb dL_does_158 (lv_at hl 7 rfl) ?_
                              refine lv_bipush (v := nI 6) hx hb dL_does_160 (by decide) ?_
                              refine lv_iload hx hb dL_does_162 (lv_at hl 1 rfl) ?_
                              refine y_imul hx hb dL_does_164 ?_
                              refine lv_iconst (v := nI 2) hx hb dL_does_165 (by decide) ?_
                              refine y_iadd hx hb dL_does_166 ?_
                              refine n_ld1 (i := (6 * sl) + 2) hx hb hK hL (by omega) dL_does_167 ?_
                              refine x_top (y := (nI (mKd E sl))) (hT6.1.2.2.1 sl hx10 hxal) ?_
                              refine lv_iconst (v := nI 1) hx hb dL_does_168 (by decide) ?_
                              refine lv_iload_n hx hb dL_does_169 rfl (lv_at hl 5 rfl) ?_
                              refine lv_ishl hx hb dL_does_170 ?_
                              refine lv_ixor hx hb dL_does_171 ?_
                              refine x_top (y := (nI (setB (mKd E sl) q9))) ((bit_xor_f _ hkd64 q9 hq6 hbt).1) ?_
                              refine lv_aload hx hb dL_does_172 (lv_at hl 7 rfl) ?_
                              refine lv_aload hx hb dL_does_174 (lv_at hl 10 rfl) ?_
                              refine lv_aload hx hb dL_does_176 (lv_at hl 11 rfl) ?_
                              refine k_vp (k_S (As := [.int (nI sl), .int (nI (setB (mKd E sl) q9)), .ref (g + 1), .ref (g + 4), .ref (g + 9)]) (rest := []) ⟨hx, hb, hml, hown, hts⟩ hev hS (c_L_change l hL hT6 iR6 (k := sl) hxal (bit_xor_f _ hkd64 q9 hq6 hbt).2) (va_cwS 5 hts gL_does_L_change rfl rfl rfl (by decide +kernel) ⟨Nat.le_of_ble_eq_true rfl, Nat.le_of_ble_eq_true rfl⟩) rfl hl.1 (Nat.le_of_ble_eq_true rfl) dL_does_178 (Nat.le_of_ble_eq_true rfl) (Nat.le_of_ble_eq_true rfl)) hS hnt hlk (fun _ _ h _ => h.elim) (Nat.le_of_ble_eq_true rfl) (Nat.le_of_ble_eq_true rfl) (fun H3 locs3 hP hz3 hS => ?_)
                              refine W.widen (k := 0) (n := 0) (Nat.le_refl _) (Nat.le_refl _) ?_
                              obtain ⟨Y7, hL, hT7, hj7, h97⟩ := hP
                              refine lv_iconst (v := nI 1) hx hb dL_does_181 (by decide) ?_
                              exact r_z hx hb hrt9 hlk hS (Nat.le_of_ble_eq_true rfl) (Nat.le_of_ble_eq_true rfl) dL_does_182 rfl (by rw [(doC_0 hq6 ho hK9).trans (if_neg (by rw [hbt]; decide))]; exact ⟨rfl, Y7, hL, hT7, fun j h1 h2 h3 h4 h9 => (hj7 j h1 h4 h9).trans (hj6 j h2 h3), fun i hi => (h97 i hi).trans (by rw [hj6 9 (by decide) (by decide)])⟩)
                          · exact absurd c121 (by decide)
                        · exact absurd c113 (by decide)
                      · have hbt := bI_e1 c99
                        refine lv_iconst (v := nI 1) hx hb dL_does_102 (by decide) ?_
                        refine lv_goto (tgt := 107) hx hb dL_does_103 (by decide) ?_
                        refine lv_istore (lv' := [(11, .int (nI 1)), (10, .int (nI sl)), (9, .int (nI 1)), (0, .int (nI 0)), (1, .int (nI sl)), (2, .int (nI q9)), (3, .int v), (4, .ref (g + 1)), (5, .ref (g + 2)), (6, .ref (g + 3)), (7, .ref (g + 4)), (8, .ref (g + 9))]) hx hb dL_does_107 hl (by decide) rfl (fun ls hl => ?_)
                        refine lv_iload hx hb dL_does_109 (lv_at hl 0 rfl) ?_
                        refine lv_iload_n hx hb dL_does_111 rfl (lv_at hl 3 rfl) ?_
                        refine lv_iconst (v := nI 1) hx hb dL_does_112 (by decide) ?_
                        refine y_icmp_ne hx hb (by decide) (by decide) (tgt := 120) dL_does_113 (by decide) (fun c113 => ?_) (fun c113 => ?_)
                        · refine lv_iconst (v := nI 0) hx hb dL_does_120 (by decide) ?_
                          refine y_icmp_eq hx hb (by decide) (by decide) (tgt := 126) dL_does_121 (by decide) (fun c121 => ?_) (fun c121 => ?_)
                          · exact absurd c121 (by decide)
                          · refine lv_iconst (v := nI 0) hx hb dL_does_124 (by decide) ?_
                            exact r_z hx hb hrt9 hlk hS (Nat.le_of_ble_eq_true rfl) (Nat.le_of_ble_eq_true rfl) dL_does_125 rfl (by rw [(doC_0 hq6 ho hK9).trans (if_pos hbt)]; exact ⟨rfl, Y, hL, hT, fun j _ _ _ _ _ => rfl, fun i _ => rfl⟩)
                        · exact absurd c113 (by decide)
                    · exact absurd c66 (by decide)
                  · exact c59.elim
            · exact absurd c35 (by decide)
          · exact absurd c19 (by decide)
  · have hl : lv_has ls 12 [(0, .int (nI 1)), (1, .int (nO o)), (2, .int kd), (3, .int v), (4, .ref (g + 1)), (5, .ref (g + 2)), (6, .ref (g + 3)), (7, .ref (g + 4)), (8, .ref (g + 9))] := hl
    rcases o with _ | sl
    · have hl : lv_has ls 12 [(0, .int (nI 1)), (1, .int ((-1))), (2, .int kd), (3, .int v), (4, .ref (g + 1)), (5, .ref (g + 2)), (6, .ref (g + 3)), (7, .ref (g + 4)), (8, .ref (g + 9))] := hl
      refine lv_iload_n hx hb dL_does_0 rfl (lv_at hl 2 rfl) ?_
      refine lv_if_lt (tgt := 14) hx hb dL_does_1 (by decide) (fun c1 => ?_) (fun c1 => ?_)
      · have hK9 : isK kd = false := decide_eq_false (fun z => absurd c1 (Int32.not_lt.mpr z.1))
        refine lv_iconst (v := nI 0) hx hb dL_does_14 (by decide) ?_
        refine lv_istore (lv' := [(9, .int (nI 0)), (0, .int (nI 1)), (1, .int ((-1))), (2, .int kd), (3, .int v), (4, .ref (g + 1)), (5, .ref (g + 2)), (6, .ref (g + 3)), (7, .ref (g + 4)), (8, .ref (g + 9))]) hx hb dL_does_15 hl (by decide) rfl (fun ls hl => ?_)
        refine lv_iload_n hx hb dL_does_17 rfl (lv_at hl 1 rfl) ?_
        refine lv_iconst (v := nI 2) hx hb dL_does_18 (by decide) ?_
        refine y_icmp_ne hx hb (by decide) (by decide) (tgt := 33) dL_does_19 (by decide) (fun c19 => ?_) (fun c19 => ?_)
        · refine lv_iload_n hx hb dL_does_33 rfl (lv_at hl 1 rfl) ?_
          refine lv_iconst (v := nI 2) hx hb dL_does_34 (by decide) ?_
          refine y_icmp_ne hx hb (by decide) (by decide) (tgt := 48) dL_does_35 (by decide) (fun c35 => ?_) (fun c35 => ?_)
          · refine lv_iload hx hb dL_does_48 (lv_at hl 0 rfl) ?_
            refine y_if_eq hx hb (by decide) (tgt := 62) dL_does_50 (by decide) (fun c50 => ?_) (fun c50 => ?_)
            · refine lv_iconst (v := nI 0) hx hb dL_does_62 (by decide) ?_
              exact r_z hx hb hrt9 hlk hS (Nat.le_of_ble_eq_true rfl) (Nat.le_of_ble_eq_true rfl) dL_does_63 rfl (by rw [doC_n (w := 1) (by decide) (by decide) ho]; exact ⟨rfl, Y, hL, hT, fun j _ _ _ _ _ => rfl, fun i _ => rfl⟩)
            · exact absurd c50 (by decide)
          · exact absurd c35 (by decide)
        · exact absurd c19 (by decide)
      · obtain ⟨q9, hq31, rfl⟩ := nI_of (x := kd) (fun z => c1 z)
        have hl : lv_has ls 12 [(0, .int (nI 1)), (1, .int ((-1))), (2, .int (nI q9)), (3, .int v), (4, .ref (g + 1)), (5, .ref (g + 2)), (6, .ref (g + 3)), (7, .ref (g + 4)), (8, .ref (g + 9))] := hl
        refine lv_iload_n hx hb dL_does_4 rfl (lv_at hl 2 rfl) ?_
        refine lv_bipush (v := nI 6) hx hb dL_does_5 (by decide) ?_
        refine y_icmp_ge hx hb (by omega) (Nat.le_of_ble_eq_true rfl) (tgt := 14) dL_does_7 (by decide) (fun c7 => ?_) (fun c7 => ?_)
        · have hK9 : isK (nI q9) = false := decide_eq_false (fun z => nI_nlt c7 hq31 z.2)
          refine lv_iconst (v := nI 0) hx hb dL_does_14 (by decide) ?_
          refine lv_istore (lv' := [(9, .int (nI 0)), (0, .int (nI 1)), (1, .int ((-1))), (2, .int (nI q9)), (3, .int v), (4, .ref (g + 1)), (5, .ref (g + 2)), (6, .ref (g + 3)), (7, .ref (g + 4)), (8, .ref (g + 9))]) hx hb dL_does_15 hl (by decide) rfl (fun ls hl => ?_)
          refine lv_iload_n hx hb dL_does_17 rfl (lv_at hl 1 rfl) ?_
          refine lv_iconst (v := nI 2) hx hb dL_does_18 (by decide) ?_
          refine y_icmp_ne hx hb (by decide) (by decide) (tgt := 33) dL_does_19 (by decide) (fun c19 => ?_) (fun c19 => ?_)
          · refine lv_iload_n hx hb dL_does_33 rfl (lv_at hl 1 rfl) ?_
            refine lv_iconst (v := nI 2) hx hb dL_does_34 (by decide) ?_
            refine y_icmp_ne hx hb (by decide) (by decide) (tgt := 48) dL_does_35 (by decide) (fun c35 => ?_) (fun c35 => ?_)
            · refine lv_iload hx hb dL_does_48 (lv_at hl 0 rfl) ?_
              refine y_if_eq hx hb (by decide) (tgt := 62) dL_does_50 (by decide) (fun c50 => ?_) (fun c50 => ?_)
              · refine lv_iconst (v := nI 0) hx hb dL_does_62 (by decide) ?_
                exact r_z hx hb hrt9 hlk hS (Nat.le_of_ble_eq_true rfl) (Nat.le_of_ble_eq_true rfl) dL_does_63 rfl (by rw [doC_n (w := 1) (by decide) (by decide) ho]; exact ⟨rfl, Y, hL, hT, fun j _ _ _ _ _ => rfl, fun i _ => rfl⟩)
              · exact absurd c50 (by decide)
            · exact absurd c35 (by decide)
          · exact absurd c19 (by decide)
        · have hq6 := c7
          have hK9 : isK (nI q9) = true := decide_eq_true ⟨nI_pos' (by omega), nI_lt hq6 (by decide)⟩
          refine lv_iconst (v := nI 1) hx hb dL_does_10 (by decide) ?_
          refine lv_goto (tgt := 15) hx hb dL_does_11 (by decide) ?_
          refine lv_istore (lv' := [(9, .int (nI 1)), (0, .int (nI 1)), (1, .int ((-1))), (2, .int (nI q9)), (3, .int v), (4, .ref (g + 1)), (5, .ref (g + 2)), (6, .ref (g + 3)), (7, .ref (g + 4)), (8, .ref (g + 9))]) hx hb dL_does_15 hl (by decide) rfl (fun ls hl => ?_)
          refine lv_iload_n hx hb dL_does_17 rfl (lv_at hl 1 rfl) ?_
          refine lv_iconst (v := nI 2) hx hb dL_does_18 (by decide) ?_
          refine y_icmp_ne hx hb (by decide) (by decide) (tgt := 33) dL_does_19 (by decide) (fun c19 => ?_) (fun c19 => ?_)
          · refine lv_iload_n hx hb dL_does_33 rfl (lv_at hl 1 rfl) ?_
            refine lv_iconst (v := nI 2) hx hb dL_does_34 (by decide) ?_
            refine y_icmp_ne hx hb (by decide) (by decide) (tgt := 48) dL_does_35 (by decide) (fun c35 => ?_) (fun c35 => ?_)
            · refine lv_iload hx hb dL_does_48 (lv_at hl 0 rfl) ?_
              refine y_if_eq hx hb (by decide) (tgt := 62) dL_does_50 (by decide) (fun c50 => ?_) (fun c50 => ?_)
              · exact absurd c50 (by decide)
              · refine lv_iload_n hx hb dL_does_53 rfl (lv_at hl 1 rfl) ?_
                refine lv_iconst (v := nI 3) hx hb dL_does_54 (by decide) ?_
                refine y_icmp_ge hx hb (by decide) (by decide) (tgt := 64) dL_does_55 (by decide) (fun c55 => ?_) (fun c55 => ?_)
                · exact absurd c55 (by decide)
                · refine lv_iload_n hx hb dL_does_58 rfl (lv_at hl 2 rfl) ?_
                  refine lv_if_ge (tgt := 64) hx hb dL_does_59 (by decide) (fun c59 => ?_) (fun c59 => ?_)
                  · exact absurd c59 (by decide)
                  · refine lv_iconst (v := nI 0) hx hb dL_does_62 (by decide) ?_
                    exact r_z hx hb hrt9 hlk hS (Nat.le_of_ble_eq_true rfl) (Nat.le_of_ble_eq_true rfl) dL_does_63 rfl (by rw [doC_n (w := 1) (by decide) (by decide) ho]; exact ⟨rfl, Y, hL, hT, fun j _ _ _ _ _ => rfl, fun i _ => rfl⟩)
            · exact absurd c35 (by decide)
          · exact absurd c19 (by decide)
    · have hl : lv_has ls 12 [(0, .int (nI 1)), (1, .int (nI sl)), (2, .int kd), (3, .int v), (4, .ref (g + 1)), (5, .ref (g + 2)), (6, .ref (g + 3)), (7, .ref (g + 4)), (8, .ref (g + 9))] := hl
      obtain ⟨hs32, hal, hsh⟩ := look_some ho
      have hs10 := hT.1.2.2.2.2.1 sl hal
      have hx10 := hs10
      have hxal := hal
      have hkd64 := iE.1 sl
      refine lv_iload_n hx hb dL_does_0 rfl (lv_at hl 2 rfl) ?_
      refine lv_if_lt (tgt := 14) hx hb dL_does_1 (by decide) (fun c1 => ?_) (fun c1 => ?_)
      · have hK9 : isK kd = false := decide_eq_false (fun z => absurd c1 (Int32.not_lt.mpr z.1))
        refine lv_iconst (v := nI 0) hx hb dL_does_14 (by decide) ?_
        refine lv_istore (lv' := [(9, .int (nI 0)), (0, .int (nI 1)), (1, .int (nI sl)), (2, .int kd), (3, .int v), (4, .ref (g + 1)), (5, .ref (g + 2)), (6, .ref (g + 3)), (7, .ref (g + 4)), (8, .ref (g + 9))]) hx hb dL_does_15 hl (by decide) rfl (fun ls hl => ?_)
        refine lv_iload_n hx hb dL_does_17 rfl (lv_at hl 1 rfl) ?_
        refine lv_iconst (v := nI 2) hx hb dL_does_18 (by decide) ?_
        refine y_icmp_ne hx hb (by decide) (by decide) (tgt := 33) dL_does_19 (by decide) (fun c19 => ?_) (fun c19 => ?_)
        · refine lv_iload_n hx hb dL_does_33 rfl (lv_at hl 1 rfl) ?_
          refine lv_iconst (v := nI 2) hx hb dL_does_34 (by decide) ?_
          refine y_icmp_ne hx hb (by decide) (by decide) (tgt := 48) dL_does_35 (by decide) (fun c35 => ?_) (fun c35 => ?_)
          · refine lv_iload hx hb dL_does_48 (lv_at hl 0 rfl) ?_
            refine y_if_eq hx hb (by decide) (tgt := 62) dL_does_50 (by decide) (fun c50 => ?_) (fun c50 => ?_)
            · refine lv_iconst (v := nI 0) hx hb dL_does_62 (by decide) ?_
              exact r_z hx hb hrt9 hlk hS (Nat.le_of_ble_eq_true rfl) (Nat.le_of_ble_eq_true rfl) dL_does_63 rfl (by rw [doC_k (w := 1) (by decide) (by decide) (by decide) ho hK9]; exact ⟨rfl, Y, hL, hT, fun j _ _ _ _ _ => rfl, fun i _ => rfl⟩)
            · exact absurd c50 (by decide)
          · exact absurd c35 (by decide)
        · exact absurd c19 (by decide)
      · obtain ⟨q9, hq31, rfl⟩ := nI_of (x := kd) (fun z => c1 z)
        have hl : lv_has ls 12 [(0, .int (nI 1)), (1, .int (nI sl)), (2, .int (nI q9)), (3, .int v), (4, .ref (g + 1)), (5, .ref (g + 2)), (6, .ref (g + 3)), (7, .ref (g + 4)), (8, .ref (g + 9))] := hl
        refine lv_iload_n hx hb dL_does_4 rfl (lv_at hl 2 rfl) ?_
        refine lv_bipush (v := nI 6) hx hb dL_does_5 (by decide) ?_
        refine y_icmp_ge hx hb (by omega) (Nat.le_of_ble_eq_true rfl) (tgt := 14) dL_does_7 (by decide) (fun c7 => ?_) (fun c7 => ?_)
        · have hK9 : isK (nI q9) = false := decide_eq_false (fun z => nI_nlt c7 hq31 z.2)
          refine lv_iconst (v := nI 0) hx hb dL_does_14 (by decide) ?_
          refine lv_istore (lv' := [(9, .int (nI 0)), (0, .int (nI 1)), (1, .int (nI sl)), (2, .int (nI q9)), (3, .int v), (4, .ref (g + 1)), (5, .ref (g + 2)), (6, .ref (g + 3)), (7, .ref (g + 4)), (8, .ref (g + 9))]) hx hb dL_does_15 hl (by decide) rfl (fun ls hl => ?_)
          refine lv_iload_n hx hb dL_does_17 rfl (lv_at hl 1 rfl) ?_
          refine lv_iconst (v := nI 2) hx hb dL_does_18 (by decide) ?_
          refine y_icmp_ne hx hb (by decide) (by decide) (tgt := 33) dL_does_19 (by decide) (fun c19 => ?_) (fun c19 => ?_)
          · refine lv_iload_n hx hb dL_does_33 rfl (lv_at hl 1 rfl) ?_
            refine lv_iconst (v := nI 2) hx hb dL_does_34 (by decide) ?_
            refine y_icmp_ne hx hb (by decide) (by decide) (tgt := 48) dL_does_35 (by decide) (fun c35 => ?_) (fun c35 => ?_)
            · refine lv_iload hx hb dL_does_48 (lv_at hl 0 rfl) ?_
              refine y_if_eq hx hb (by decide) (tgt := 62) dL_does_50 (by decide) (fun c50 => ?_) (fun c50 => ?_)
              · refine lv_iconst (v := nI 0) hx hb dL_does_62 (by decide) ?_
                exact r_z hx hb hrt9 hlk hS (Nat.le_of_ble_eq_true rfl) (Nat.le_of_ble_eq_true rfl) dL_does_63 rfl (by rw [doC_k (w := 1) (by decide) (by decide) (by decide) ho hK9]; exact ⟨rfl, Y, hL, hT, fun j _ _ _ _ _ => rfl, fun i _ => rfl⟩)
              · exact absurd c50 (by decide)
            · exact absurd c35 (by decide)
          · exact absurd c19 (by decide)
        · have hq6 := c7
          have hK9 : isK (nI q9) = true := decide_eq_true ⟨nI_pos' (by omega), nI_lt hq6 (by decide)⟩
          refine lv_iconst (v := nI 1) hx hb dL_does_10 (by decide) ?_
          refine lv_goto (tgt := 15) hx hb dL_does_11 (by decide) ?_
          refine lv_istore (lv' := [(9, .int (nI 1)), (0, .int (nI 1)), (1, .int (nI sl)), (2, .int (nI q9)), (3, .int v), (4, .ref (g + 1)), (5, .ref (g + 2)), (6, .ref (g + 3)), (7, .ref (g + 4)), (8, .ref (g + 9))]) hx hb dL_does_15 hl (by decide) rfl (fun ls hl => ?_)
          refine lv_iload_n hx hb dL_does_17 rfl (lv_at hl 1 rfl) ?_
          refine lv_iconst (v := nI 2) hx hb dL_does_18 (by decide) ?_
          refine y_icmp_ne hx hb (by decide) (by decide) (tgt := 33) dL_does_19 (by decide) (fun c19 => ?_) (fun c19 => ?_)
          · refine lv_iload_n hx hb dL_does_33 rfl (lv_at hl 1 rfl) ?_
            refine lv_iconst (v := nI 2) hx hb dL_does_34 (by decide) ?_
            refine y_icmp_ne hx hb (by decide) (by decide) (tgt := 48) dL_does_35 (by decide) (fun c35 => ?_) (fun c35 => ?_)
            · refine lv_iload hx hb dL_does_48 (lv_at hl 0 rfl) ?_
              refine y_if_eq hx hb (by decide) (tgt := 62) dL_does_50 (by decide) (fun c50 => ?_) (fun c50 => ?_)
              · exact absurd c50 (by decide)
              · refine lv_iload_n hx hb dL_does_53 rfl (lv_at hl 1 rfl) ?_
                refine lv_iconst (v := nI 3) hx hb dL_does_54 (by decide) ?_
                refine y_icmp_ge hx hb (by decide) (by decide) (tgt := 64) dL_does_55 (by decide) (fun c55 => ?_) (fun c55 => ?_)
                · exact absurd c55 (by decide)
                · refine lv_iload_n hx hb dL_does_58 rfl (lv_at hl 2 rfl) ?_
                  refine y_if_ge hx hb (by omega) (tgt := 64) dL_does_59 (by decide) (fun c59 => ?_) (fun c59 => ?_)
                  · refine lv_iload_n hx hb dL_does_64 rfl (lv_at hl 1 rfl) ?_
                    refine lv_iconst (v := nI 3) hx hb dL_does_65 (by decide) ?_
                    refine y_icmp_ne hx hb (by decide) (by decide) (tgt := 81) dL_does_66 (by decide) (fun c66 => ?_) (fun c66 => ?_)
                    · refine lv_iload_n hx hb dL_does_81 rfl (lv_at hl 2 rfl) ?_
                      refine lv_istore (lv' := [(10, .int (nI sl)), (9, .int (nI 1)), (0, .int (nI 1)), (1, .int (nI sl)), (2, .int (nI q9)), (3, .int v), (4, .ref (g + 1)), (5, .ref (g + 2)), (6, .ref (g + 3)), (7, .ref (g + 4)), (8, .ref (g + 9))]) hx hb dL_does_82 hl (by decide) rfl (fun ls hl => ?_)
                      refine lv_aload hx hb dL_does_84 (lv_at hl 6 rfl) ?_
                      refine lv_bipush (v := nI 6) hx hb dL_does_86 (by decide) ?_
                      refine lv_iload hx hb dL_does_88 (lv_at hl 0 rfl) ?_
                      refine y_imul hx hb dL_does_90 ?_
                      refine lv_iconst (v := nI 2) hx hb dL_does_91 (by decide) ?_
                      refine y_iadd hx hb dL_does_92 ?_
                      refine n_ld1 (i := (6 * sl) + 2) hx hb hK hL (by omega) dL_does_93 ?_
                      refine x_top (y := (nI (mKd E sl))) (hT.1.2.2.1 sl hx10 hxal) ?_
                      refine lv_iload_n hx hb dL_does_94 rfl (lv_at hl 4 rfl) ?_
                      refine lv_ishr hx hb dL_does_95 ?_
                      refine lv_iconst (v := nI 1) hx hb dL_does_96 (by decide) ?_
                      refine lv_iand hx hb dL_does_97 ?_
                      refine x_top (y := (bI (bitS (mKd E sl) q9))) (bit_val _ hkd64 q9 hq6) ?_
                      refine lv_iconst (v := nI 1) hx hb dL_does_98 (by decide) ?_
                      refine lv_icmp_ne (tgt := 106) hx hb dL_does_99 (by decide) (fun c99 => ?_) (fun c99 => ?_)
                      · have hbt := bI_n1 c99
                        refine lv_iconst (v := nI 0) hx hb dL_does_106 (by decide) ?_
                        refine lv_istore (lv' := [(11, .int (nI 0)), (10, .int (nI sl)), (9, .int (nI 1)), (0, .int (nI 1)), (1, .int (nI sl)), (2, .int (nI q9)), (3, .int v), (4, .ref (g + 1)), (5, .ref (g + 2)), (6, .ref (g + 3)), (7, .ref (g + 4)), (8, .ref (g + 9))]) hx hb dL_does_107 hl (by decide) rfl (fun ls hl => ?_)
                        refine lv_iload hx hb dL_does_109 (lv_at hl 0 rfl) ?_
                        refine lv_iload_n hx hb dL_does_111 rfl (lv_at hl 3 rfl) ?_
                        refine lv_iconst (v := nI 1) hx hb dL_does_112 (by decide) ?_
                        refine y_icmp_ne hx hb (by decide) (by decide) (tgt := 120) dL_does_113 (by decide) (fun c113 => ?_) (fun c113 => ?_)
                        · exact absurd c113 (by decide)
                        · refine lv_iconst (v := nI 1) hx hb dL_does_116 (by decide) ?_
                          refine lv_goto (tgt := 121) hx hb dL_does_117 (by decide) ?_
                          refine y_icmp_eq hx hb (by decide) (by decide) (tgt := 126) dL_does_121 (by decide) (fun c121 => ?_) (fun c121 => ?_)
                          · exact absurd c121 (by decide)
                          · refine lv_iconst (v := nI 0) hx hb dL_does_124 (by decide) ?_
                            exact r_z hx hb hrt9 hlk hS (Nat.le_of_ble_eq_true rfl) (Nat.le_of_ble_eq_true rfl) dL_does_125 rfl (by rw [(doC_1 (w := 1) (by decide) (by decide) (by decide) (by decide) hq6 ho hK9).trans (if_pos hbt)]; exact ⟨rfl, Y, hL, hT, fun j _ _ _ _ _ => rfl, fun i _ => rfl⟩)
                      · have hbt := bI_e1 c99
                        refine lv_iconst (v := nI 1) hx hb dL_does_102 (by decide) ?_
                        refine lv_goto (tgt := 107) hx hb dL_does_103 (by decide) ?_
                        refine lv_istore (lv' := [(11, .int (nI 1)), (10, .int (nI sl)), (9, .int (nI 1)), (0, .int (nI 1)), (1, .int (nI sl)), (2, .int (nI q9)), (3, .int v), (4, .ref (g + 1)), (5, .ref (g + 2)), (6, .ref (g + 3)), (7, .ref (g + 4)), (8, .ref (g + 9))]) hx hb dL_does_107 hl (by decide) rfl (fun ls hl => ?_)
                        refine lv_iload hx hb dL_does_109 (lv_at hl 0 rfl) ?_
                        refine lv_iload_n hx hb dL_does_111 rfl (lv_at hl 3 rfl) ?_
                        refine lv_iconst (v := nI 1) hx hb dL_does_112 (by decide) ?_
                        refine y_icmp_ne hx hb (by decide) (by decide) (tgt := 120) dL_does_113 (by decide) (fun c113 => ?_) (fun c113 => ?_)
                        · exact absurd c113 (by decide)
                        · refine lv_iconst (v := nI 1) hx hb dL_does_116 (by decide) ?_
                          refine lv_goto (tgt := 121) hx hb dL_does_117 (by decide) ?_
                          refine y_icmp_eq hx hb (by decide) (by decide) (tgt := 126) dL_does_121 (by decide) (fun c121 => ?_) (fun c121 => ?_)
                          · refine lv_iload_n hx hb dL_does_126 rfl (lv_at hl 3 rfl) ?_
                            refine lv_iconst (v := nI 1) hx hb dL_does_127 (by decide) ?_
                            refine y_icmp_eq hx hb (by decide) (by decide) (tgt := 156) dL_does_128 (by decide) (fun c128 => ?_) (fun c128 => ?_)
                            · have hT6 := hT
                              have iR6 := iR
                              refine lv_iload hx hb dL_does_156 (lv_at hl 1 rfl) ?_
                              refine lv_aload hx hb dL_does_158 (lv_at hl 7 rfl) ?_
                              refine lv_bipush (v := nI 6) hx hb dL_does_160 (by decide) ?_
                              refine lv_iload hx hb dL_does_162 (lv_at hl 1 rfl) ?_
                              refine y_imul hx hb dL_does_164 ?_
                              refine lv_iconst (v := nI 2) hx hb dL_does_165 (by decide) ?_
                              refine y_iadd hx hb dL_does_166 ?_
                              refine n_ld1 (i := (6 * sl) + 2) hx hb hK hL (by omega) dL_does_167 ?_
                              refine x_top (y := (nI (mKd E sl))) (hT6.1.2.2.1 sl hx10 hxal) ?_
                              refine lv_iconst (v := nI 1) hx hb dL_does_168 (by decide) ?_
                              refine lv_iload_n hx hb dL_does_169 rfl (lv_at hl 5 rfl) ?_
                              refine lv_ishl hx hb dL_does_170 ?_
                              refine lv_ixor hx hb dL_does_171 ?_
                              refine x_top (y := (nI (clrB (mKd E sl) q9))) ((bit_xor_t _ hkd64 q9 hq6 hbt).1) ?_
                              refine lv_aload hx hb dL_does_172 (lv_at hl 7 rfl) ?_
                              refine lv_aload hx hb dL_does_174 (lv_at hl 10 rfl) ?_
                              refine lv_aload hx hb dL_does_176 (lv_at hl 11 rfl) ?_
                              refine k_vp (k_S (As := [.int (nI sl), .int (nI (clrB (mKd E sl) q9)), .ref (g + 1), .ref (g + 4), .ref (g + 9)]) (rest := []) ⟨hx, hb, hml, hown, hts⟩ hev hS (c_L_change l hL hT6 iR6 (k := sl) hxal (bit_xor_t _ hkd64 q9 hq6 hbt).2) (va_cwS 5 hts gL_does_L_change rfl rfl rfl (by decide +kernel) ⟨Nat.le_of_ble_eq_true rfl, Nat.le_of_ble_eq_true rfl⟩) rfl hl.1 (Nat.le_of_ble_eq_true rfl) dL_does_178 (Nat.le_of_ble_eq_true rfl) (Nat.le_of_ble_eq_true rfl)) hS hnt hlk (fun _ _ h _ => h.elim) (Nat.le_of_ble_eq_true rfl) (Nat.le_of_ble_eq_true rfl) (fun H4 locs4 hP hz4 hS => ?_)
                              refine W.widen (k := 0) (n := 0) (Nat.le_refl _) (Nat.le_refl _) ?_
                              obtain ⟨Y7, hL, hT7, hj7, h97⟩ := hP
                              refine lv_iconst (v := nI 1) hx hb dL_does_181 (by decide) ?_
                              exact r_z hx hb hrt9 hlk hS (Nat.le_of_ble_eq_true rfl) (Nat.le_of_ble_eq_true rfl) dL_does_182 rfl (by rw [(doC_1 (w := 1) (by decide) (by decide) (by decide) (by decide) hq6 ho hK9).trans (if_neg (by rw [hbt]; decide))]; exact ⟨rfl, Y7, hL, hT7, fun j h1 h2 h3 h4 h9 => hj7 j h1 h4 h9, fun i hi => h97 i hi⟩)
                            · exact absurd c128 (by decide)
                          · exact absurd c121 (by decide)
                    · exact absurd c66 (by decide)
                  · exact c59.elim
            · exact absurd c35 (by decide)
          · exact absurd c19 (by decide)
  · have hl : lv_has ls 12 [(0, .int (nI 2)), (1, .int (nO o)), (2, .int kd), (3, .int v), (4, .ref (g + 1)), (5, .ref (g + 2)), (6, .ref (g + 3)), (7, .ref (g + 4)), (8, .ref (g + 9))] := hl
    rcases o with _ | sl
    · have hl : lv_has ls 12 [(0, .int (nI 2)), (1, .int ((-1))), (2, .int kd), (3, .int v), (4, .ref (g + 1)), (5, .ref (g + 2)), (6, .ref (g + 3)), (7, .ref (g + 4)), (8, .ref (g + 9))] := hl
      refine lv_iload_n hx hb dL_does_0 rfl (lv_at hl 2 rfl) ?_
      refine lv_if_lt (tgt := 14) hx hb dL_does_1 (by decide) (fun c1 => ?_) (fun c1 => ?_)
      · have hK9 : isK kd = false := decide_eq_false (fun z => absurd c1 (Int32.not_lt.mpr z.1))
        refine lv_iconst (v := nI 0) hx hb dL_does_14 (by decide) ?_
        refine lv_istore (lv' := [(9, .int (nI 0)), (0, .int (nI 2)), (1, .int ((-1))), (2, .int kd), (3, .int v), (4, .ref (g + 1)), (5, .ref (g + 2)), (6, .ref (g + 3)), (7, .ref (g + 4)), (8, .ref (g + 9))]) hx hb dL_does_15 hl (by decide) rfl (fun ls hl => ?_)
        refine lv_iload_n hx hb dL_does_17 rfl (lv_at hl 1 rfl) ?_
        refine lv_iconst (v := nI 2) hx hb dL_does_18 (by decide) ?_
        refine y_icmp_ne hx hb (by decide) (by decide) (tgt := 33) dL_does_19 (by decide) (fun c19 => ?_) (fun c19 => ?_)
        · exact absurd c19 (by decide)
        · refine lv_iload_n hx hb dL_does_22 rfl (lv_at hl 2 rfl) ?_
          refine lv_if_lt (tgt := 33) hx hb dL_does_23 (by decide) (fun c23 => ?_) (fun c23 => ?_)
          · refine lv_iload_n hx hb dL_does_33 rfl (lv_at hl 1 rfl) ?_
            refine lv_iconst (v := nI 2) hx hb dL_does_34 (by decide) ?_
            refine y_icmp_ne hx hb (by decide) (by decide) (tgt := 48) dL_does_35 (by decide) (fun c35 => ?_) (fun c35 => ?_)
            · exact absurd c35 (by decide)
            · refine lv_iload_n hx hb dL_does_38 rfl (lv_at hl 2 rfl) ?_
              refine lv_if_lt (tgt := 46) hx hb dL_does_39 (by decide) (fun c39 => ?_) (fun c39 => ?_)
              · refine lv_iconst (v := nI 0) hx hb dL_does_46 (by decide) ?_
                exact r_z hx hb hrt9 hlk hS (Nat.le_of_ble_eq_true rfl) (Nat.le_of_ble_eq_true rfl) dL_does_47 rfl (by rw [doC_n (w := 2) (by decide) (by decide) ho]; exact ⟨rfl, Y, hL, hT, fun j _ _ _ _ _ => rfl, fun i _ => rfl⟩)
              · exact absurd (by decide) c39
          · exact absurd (by decide) c23
      · obtain ⟨q9, hq31, rfl⟩ := nI_of (x := kd) (fun z => c1 z)
        have hl : lv_has ls 12 [(0, .int (nI 2)), (1, .int ((-1))), (2, .int (nI q9)), (3, .int v), (4, .ref (g + 1)), (5, .ref (g + 2)), (6, .ref (g + 3)), (7, .ref (g + 4)), (8, .ref (g + 9))] := hl
        refine lv_iload_n hx hb dL_does_4 rfl (lv_at hl 2 rfl) ?_
        refine lv_bipush (v := nI 6) hx hb dL_does_5 (by decide) ?_
        refine y_icmp_ge hx hb (by omega) (Nat.le_of_ble_eq_true rfl) (tgt := 14) dL_does_7 (by decide) (fun c7 => ?_) (fun c7 => ?_)
        · have hK9 : isK (nI q9) = false := decide_eq_false (fun z => nI_nlt c7 hq31 z.2)
          refine lv_iconst (v := nI 0) hx hb dL_does_14 (by decide) ?_
          refine lv_istore (lv' := [(9, .int (nI 0)), (0, .int (nI 2)), (1, .int ((-1))), (2, .int (nI q9)), (3, .int v), (4, .ref (g + 1)), (5, .ref (g + 2)), (6, .ref (g + 3)), (7, .ref (g + 4)), (8, .ref (g + 9))]) hx hb dL_does_15 hl (by decide) rfl (fun ls hl => ?_)
          refine lv_iload_n hx hb dL_does_17 rfl (lv_at hl 1 rfl) ?_
          refine lv_iconst (v := nI 2) hx hb dL_does_18 (by decide) ?_
          refine y_icmp_ne hx hb (by decide) (by decide) (tgt := 33) dL_does_19 (by decide) (fun c19 => ?_) (fun c19 => ?_)
          · exact absurd c19 (by decide)
          · refine lv_iload_n hx hb dL_does_22 rfl (lv_at hl 2 rfl) ?_
            refine lv_if_lt (tgt := 33) hx hb dL_does_23 (by decide) (fun c23 => ?_) (fun c23 => ?_)
            · refine lv_iload_n hx hb dL_does_33 rfl (lv_at hl 1 rfl) ?_
              refine lv_iconst (v := nI 2) hx hb dL_does_34 (by decide) ?_
              refine y_icmp_ne hx hb (by decide) (by decide) (tgt := 48) dL_does_35 (by decide) (fun c35 => ?_) (fun c35 => ?_)
              · exact absurd c35 (by decide)
              · refine lv_iload_n hx hb dL_does_38 rfl (lv_at hl 2 rfl) ?_
                refine lv_if_lt (tgt := 46) hx hb dL_does_39 (by decide) (fun c39 => ?_) (fun c39 => ?_)
                · refine lv_iconst (v := nI 0) hx hb dL_does_46 (by decide) ?_
                  exact r_z hx hb hrt9 hlk hS (Nat.le_of_ble_eq_true rfl) (Nat.le_of_ble_eq_true rfl) dL_does_47 rfl (by rw [doC_n (w := 2) (by decide) (by decide) ho]; exact ⟨rfl, Y, hL, hT, fun j _ _ _ _ _ => rfl, fun i _ => rfl⟩)
                · exact absurd (by decide) c39
            · exact absurd (by decide) c23
        · have hq6 := c7
          have hK9 : isK (nI q9) = true := decide_eq_true ⟨nI_pos' (by omega), nI_lt hq6 (by decide)⟩
          refine lv_iconst (v := nI 1) hx hb dL_does_10 (by decide) ?_
          refine lv_goto (tgt := 15) hx hb dL_does_11 (by decide) ?_
          refine lv_istore (lv' := [(9, .int (nI 1)), (0, .int (nI 2)), (1, .int ((-1))), (2, .int (nI q9)), (3, .int v), (4, .ref (g + 1)), (5, .ref (g + 2)), (6, .ref (g + 3)), (7, .ref (g + 4)), (8, .ref (g + 9))]) hx hb dL_does_15 hl (by decide) rfl (fun ls hl => ?_)
          refine lv_iload_n hx hb dL_does_17 rfl (lv_at hl 1 rfl) ?_
          refine lv_iconst (v := nI 2) hx hb dL_does_18 (by decide) ?_
          refine y_icmp_ne hx hb (by decide) (by decide) (tgt := 33) dL_does_19 (by decide) (fun c19 => ?_) (fun c19 => ?_)
          · exact absurd c19 (by decide)
          · refine lv_iload_n hx hb dL_does_22 rfl (lv_at hl 2 rfl) ?_
            refine lv_if_lt (tgt := 33) hx hb dL_does_23 (by decide) (fun c23 => ?_) (fun c23 => ?_)
            · refine lv_iload_n hx hb dL_does_33 rfl (lv_at hl 1 rfl) ?_
              refine lv_iconst (v := nI 2) hx hb dL_does_34 (by decide) ?_
              refine y_icmp_ne hx hb (by decide) (by decide) (tgt := 48) dL_does_35 (by decide) (fun c35 => ?_) (fun c35 => ?_)
              · exact absurd c35 (by decide)
              · refine lv_iload_n hx hb dL_does_38 rfl (lv_at hl 2 rfl) ?_
                refine lv_if_lt (tgt := 46) hx hb dL_does_39 (by decide) (fun c39 => ?_) (fun c39 => ?_)
                · refine lv_iconst (v := nI 0) hx hb dL_does_46 (by decide) ?_
                  exact r_z hx hb hrt9 hlk hS (Nat.le_of_ble_eq_true rfl) (Nat.le_of_ble_eq_true rfl) dL_does_47 rfl (by rw [doC_n (w := 2) (by decide) (by decide) ho]; exact ⟨rfl, Y, hL, hT, fun j _ _ _ _ _ => rfl, fun i _ => rfl⟩)
                · exact absurd (by decide) c39
            · exact absurd (by decide) c23
    · have hl : lv_has ls 12 [(0, .int (nI 2)), (1, .int (nI sl)), (2, .int kd), (3, .int v), (4, .ref (g + 1)), (5, .ref (g + 2)), (6, .ref (g + 3)), (7, .ref (g + 4)), (8, .ref (g + 9))] := hl
      obtain ⟨hs32, hal, hsh⟩ := look_some ho
      have hs10 := hT.1.2.2.2.2.1 sl hal
      have hx10 := hs10
      have hxal := hal
      have hkd64 := iE.1 sl
      refine lv_iload_n hx hb dL_does_0 rfl (lv_at hl 2 rfl) ?_
      refine lv_if_lt (tgt := 14) hx hb dL_does_1 (by decide) (fun c1 => ?_) (fun c1 => ?_)
      · have hK9 : isK kd = false := decide_eq_false (fun z => absurd c1 (Int32.not_lt.mpr z.1))
        refine lv_iconst (v := nI 0) hx hb dL_does_14 (by decide) ?_
        refine lv_istore (lv' := [(9, .int (nI 0)), (0, .int (nI 2)), (1, .int (nI sl)), (2, .int kd), (3, .int v), (4, .ref (g + 1)), (5, .ref (g + 2)), (6, .ref (g + 3)), (7, .ref (g + 4)), (8, .ref (g + 9))]) hx hb dL_does_15 hl (by decide) rfl (fun ls hl => ?_)
        refine lv_iload_n hx hb dL_does_17 rfl (lv_at hl 1 rfl) ?_
        refine lv_iconst (v := nI 2) hx hb dL_does_18 (by decide) ?_
        refine y_icmp_ne hx hb (by decide) (by decide) (tgt := 33) dL_does_19 (by decide) (fun c19 => ?_) (fun c19 => ?_)
        · exact absurd c19 (by decide)
        · refine lv_iload_n hx hb dL_does_22 rfl (lv_at hl 2 rfl) ?_
          refine y_if_lt hx hb (by omega) (tgt := 33) dL_does_23 (by decide) (fun c23 => ?_) (fun c23 => ?_)
          · exact c23.elim
          · refine lv_iload_n hx hb dL_does_26 rfl (lv_at hl 2 rfl) ?_
            refine lv_aload hx hb dL_does_27 (lv_at hl 5 rfl) ?_
            refine k_ip (k_S (As := [.int (nI sl), .ref (g + 1)]) (rest := []) ⟨hx, hb, hml, hown, hts⟩ hev hS (c_L_end l hL hT iE iR hal) (va_cwS 2 hts gL_does_L_end rfl rfl rfl (by decide +kernel) ⟨Nat.le_of_ble_eq_true rfl, Nat.le_of_ble_eq_true rfl⟩) rfl hl.1 (Nat.le_of_ble_eq_true rfl) dL_does_29 (Nat.le_of_ble_eq_true rfl) (Nat.le_of_ble_eq_true rfl)) hS hnt hlk (fun _ _ h _ => h.elim) (Nat.le_of_ble_eq_true rfl) (Nat.le_of_ble_eq_true rfl) (fun rq5_ H5 locs5 hP hz5 hS => ?_)
            refine W.widen (k := 0) (n := 0) (Nat.le_refl _) (Nat.le_refl _) ?_
            obtain ⟨er, Y5, hL, hT5, hj5⟩ := hP
            refine lv_pop hx hb dL_does_32 rfl ?_
            refine lv_iload_n hx hb dL_does_33 rfl (lv_at hl 1 rfl) ?_
            refine lv_iconst (v := nI 2) hx hb dL_does_34 (by decide) ?_
            refine y_icmp_ne hx hb (by decide) (by decide) (tgt := 48) dL_does_35 (by decide) (fun c35 => ?_) (fun c35 => ?_)
            · exact absurd c35 (by decide)
            · refine lv_iload_n hx hb dL_does_38 rfl (lv_at hl 2 rfl) ?_
              refine y_if_lt hx hb (by omega) (tgt := 46) dL_does_39 (by decide) (fun c39 => ?_) (fun c39 => ?_)
              · exact c39.elim
              · refine lv_iconst (v := nI 1) hx hb dL_does_42 (by decide) ?_
                refine lv_goto (tgt := 47) hx hb dL_does_43 (by decide) ?_
                exact r_z hx hb hrt9 hlk hS (Nat.le_of_ble_eq_true rfl) (Nat.le_of_ble_eq_true rfl) dL_does_47 rfl (by rw [doC_2 ho]; exact ⟨rfl, Y5, hL, hT5, fun j h1 _ _ _ _ => hj5 j h1, fun i _ => by rw [hj5 9 (by decide)]⟩)
      · obtain ⟨q9, hq31, rfl⟩ := nI_of (x := kd) (fun z => c1 z)
        have hl : lv_has ls 12 [(0, .int (nI 2)), (1, .int (nI sl)), (2, .int (nI q9)), (3, .int v), (4, .ref (g + 1)), (5, .ref (g + 2)), (6, .ref (g + 3)), (7, .ref (g + 4)), (8, .ref (g + 9))] := hl
        refine lv_iload_n hx hb dL_does_4 rfl (lv_at hl 2 rfl) ?_
        refine lv_bipush (v := nI 6) hx hb dL_does_5 (by decide) ?_
        refine y_icmp_ge hx hb (by omega) (Nat.le_of_ble_eq_true rfl) (tgt := 14) dL_does_7 (by decide) (fun c7 => ?_) (fun c7 => ?_)
        · have hK9 : isK (nI q9) = false := decide_eq_false (fun z => nI_nlt c7 hq31 z.2)
          refine lv_iconst (v := nI 0) hx hb dL_does_14 (by decide) ?_
          refine lv_istore (lv' := [(9, .int (nI 0)), (0, .int (nI 2)), (1, .int (nI sl)), (2, .int (nI q9)), (3, .int v), (4, .ref (g + 1)), (5, .ref (g + 2)), (6, .ref (g + 3)), (7, .ref (g + 4)), (8, .ref (g + 9))]) hx hb dL_does_15 hl (by decide) rfl (fun ls hl => ?_)
          refine lv_iload_n hx hb dL_does_17 rfl (lv_at hl 1 rfl) ?_
          refine lv_iconst (v := nI 2) hx hb dL_does_18 (by decide) ?_
          refine y_icmp_ne hx hb (by decide) (by decide) (tgt := 33) dL_does_19 (by decide) (fun c19 => ?_) (fun c19 => ?_)
          · exact absurd c19 (by decide)
          · refine lv_iload_n hx hb dL_does_22 rfl (lv_at hl 2 rfl) ?_
            refine y_if_lt hx hb (by omega) (tgt := 33) dL_does_23 (by decide) (fun c23 => ?_) (fun c23 => ?_)
            · exact c23.elim
            · refine lv_iload_n hx hb dL_does_26 rfl (lv_at hl 2 rfl) ?_
              refine lv_aload hx hb dL_does_27 (lv_at hl 5 rfl) ?_
              refine k_ip (k_S (As := [.int (nI sl), .ref (g + 1)]) (rest := []) ⟨hx, hb, hml, hown, hts⟩ hev hS (c_L_end l hL hT iE iR hal) (va_cwS 2 hts gL_does_L_end rfl rfl rfl (by decide +kernel) ⟨Nat.le_of_ble_eq_true rfl, Nat.le_of_ble_eq_true rfl⟩) rfl hl.1 (Nat.le_of_ble_eq_true rfl) dL_does_29 (Nat.le_of_ble_eq_true rfl) (Nat.le_of_ble_eq_true rfl)) hS hnt hlk (fun _ _ h _ => h.elim) (Nat.le_of_ble_eq_true rfl) (Nat.le_of_ble_eq_true rfl) (fun rq6_ H6 locs6 hP hz6 hS => ?_)
              refine W.widen (k := 0) (n := 0) (Nat.le_refl _) (Nat.le_refl _) ?_
              obtain ⟨er, Y5, hL, hT5, hj5⟩ := hP
              refine lv_pop hx hb dL_does_32 rfl ?_
              refine lv_iload_n hx hb dL_does_33 rfl (lv_at hl 1 rfl) ?_
              refine lv_iconst (v := nI 2) hx hb dL_does_34 (by decide) ?_
              refine y_icmp_ne hx hb (by decide) (by decide) (tgt := 48) dL_does_35 (by decide) (fun c35 => ?_) (fun c35 => ?_)
              · exact absurd c35 (by decide)
              · refine lv_iload_n hx hb dL_does_38 rfl (lv_at hl 2 rfl) ?_
                refine y_if_lt hx hb (by omega) (tgt := 46) dL_does_39 (by decide) (fun c39 => ?_) (fun c39 => ?_)
                · exact c39.elim
                · refine lv_iconst (v := nI 1) hx hb dL_does_42 (by decide) ?_
                  refine lv_goto (tgt := 47) hx hb dL_does_43 (by decide) ?_
                  exact r_z hx hb hrt9 hlk hS (Nat.le_of_ble_eq_true rfl) (Nat.le_of_ble_eq_true rfl) dL_does_47 rfl (by rw [doC_2 ho]; exact ⟨rfl, Y5, hL, hT5, fun j h1 _ _ _ _ => hj5 j h1, fun i _ => by rw [hj5 9 (by decide)]⟩)
        · have hq6 := c7
          have hK9 : isK (nI q9) = true := decide_eq_true ⟨nI_pos' (by omega), nI_lt hq6 (by decide)⟩
          refine lv_iconst (v := nI 1) hx hb dL_does_10 (by decide) ?_
          refine lv_goto (tgt := 15) hx hb dL_does_11 (by decide) ?_
          refine lv_istore (lv' := [(9, .int (nI 1)), (0, .int (nI 2)), (1, .int (nI sl)), (2, .int (nI q9)), (3, .int v), (4, .ref (g + 1)), (5, .ref (g + 2)), (6, .ref (g + 3)), (7, .ref (g + 4)), (8, .ref (g + 9))]) hx hb dL_does_15 hl (by decide) rfl (fun ls hl => ?_)
          refine lv_iload_n hx hb dL_does_17 rfl (lv_at hl 1 rfl) ?_
          refine lv_iconst (v := nI 2) hx hb dL_does_18 (by decide) ?_
          refine y_icmp_ne hx hb (by decide) (by decide) (tgt := 33) dL_does_19 (by decide) (fun c19 => ?_) (fun c19 => ?_)
          · exact absurd c19 (by decide)
          · refine lv_iload_n hx hb dL_does_22 rfl (lv_at hl 2 rfl) ?_
            refine y_if_lt hx hb (by omega) (tgt := 33) dL_does_23 (by decide) (fun c23 => ?_) (fun c23 => ?_)
            · exact c23.elim
            · refine lv_iload_n hx hb dL_does_26 rfl (lv_at hl 2 rfl) ?_
              refine lv_aload hx hb dL_does_27 (lv_at hl 5 rfl) ?_
              refine k_ip (k_S (As := [.int (nI sl), .ref (g + 1)]) (rest := []) ⟨hx, hb, hml, hown, hts⟩ hev hS (c_L_end l hL hT iE iR hal) (va_cwS 2 hts gL_does_L_end rfl rfl rfl (by decide +kernel) ⟨Nat.le_of_ble_eq_true rfl, Nat.le_of_ble_eq_true rfl⟩) rfl hl.1 (Nat.le_of_ble_eq_true rfl) dL_does_29 (Nat.le_of_ble_eq_true rfl) (Nat.le_of_ble_eq_true rfl)) hS hnt hlk (fun _ _ h _ => h.elim) (Nat.le_of_ble_eq_true rfl) (Nat.le_of_ble_eq_true rfl) (fun rq7_ H7 locs7 hP hz7 hS => ?_)
              refine W.widen (k := 0) (n := 0) (Nat.le_refl _) (Nat.le_refl _) ?_
              obtain ⟨er, Y5, hL, hT5, hj5⟩ := hP
              refine lv_pop hx hb dL_does_32 rfl ?_
              refine lv_iload_n hx hb dL_does_33 rfl (lv_at hl 1 rfl) ?_
              refine lv_iconst (v := nI 2) hx hb dL_does_34 (by decide) ?_
              refine y_icmp_ne hx hb (by decide) (by decide) (tgt := 48) dL_does_35 (by decide) (fun c35 => ?_) (fun c35 => ?_)
              · exact absurd c35 (by decide)
              · refine lv_iload_n hx hb dL_does_38 rfl (lv_at hl 2 rfl) ?_
                refine y_if_lt hx hb (by omega) (tgt := 46) dL_does_39 (by decide) (fun c39 => ?_) (fun c39 => ?_)
                · exact c39.elim
                · refine lv_iconst (v := nI 1) hx hb dL_does_42 (by decide) ?_
                  refine lv_goto (tgt := 47) hx hb dL_does_43 (by decide) ?_
                  exact r_z hx hb hrt9 hlk hS (Nat.le_of_ble_eq_true rfl) (Nat.le_of_ble_eq_true rfl) dL_does_47 rfl (by rw [doC_2 ho]; exact ⟨rfl, Y5, hL, hT5, fun j h1 _ _ _ _ => hj5 j h1, fun i _ => by rw [hj5 9 (by decide)]⟩)
  · have hl : lv_has ls 12 [(0, .int (nI 3)), (1, .int (nO o)), (2, .int kd), (3, .int v), (4, .ref (g + 1)), (5, .ref (g + 2)), (6, .ref (g + 3)), (7, .ref (g + 4)), (8, .ref (g + 9))] := hl
    rcases o with _ | sl
    · have hl : lv_has ls 12 [(0, .int (nI 3)), (1, .int ((-1))), (2, .int kd), (3, .int v), (4, .ref (g + 1)), (5, .ref (g + 2)), (6, .ref (g + 3)), (7, .ref (g + 4)), (8, .ref (g + 9))] := hl
      refine lv_iload_n hx hb dL_does_0 rfl (lv_at hl 2 rfl) ?_
      refine lv_if_lt (tgt := 14) hx hb dL_does_1 (by decide) (fun c1 => ?_) (fun c1 => ?_)
      · have hK9 : isK kd = false := decide_eq_false (fun z => absurd c1 (Int32.not_lt.mpr z.1))
        refine lv_iconst (v := nI 0) hx hb dL_does_14 (by decide) ?_
        refine lv_istore (lv' := [(9, .int (nI 0)), (0, .int (nI 3)), (1, .int ((-1))), (2, .int kd), (3, .int v), (4, .ref (g + 1)), (5, .ref (g + 2)), (6, .ref (g + 3)), (7, .ref (g + 4)), (8, .ref (g + 9))]) hx hb dL_does_15 hl (by decide) rfl (fun ls hl => ?_)
        refine lv_iload_n hx hb dL_does_17 rfl (lv_at hl 1 rfl) ?_
        refine lv_iconst (v := nI 2) hx hb dL_does_18 (by decide) ?_
        refine y_icmp_ne hx hb (by decide) (by decide) (tgt := 33) dL_does_19 (by decide) (fun c19 => ?_) (fun c19 => ?_)
        · refine lv_iload_n hx hb dL_does_33 rfl (lv_at hl 1 rfl) ?_
          refine lv_iconst (v := nI 2) hx hb dL_does_34 (by decide) ?_
          refine y_icmp_ne hx hb (by decide) (by decide) (tgt := 48) dL_does_35 (by decide) (fun c35 => ?_) (fun c35 => ?_)
          · refine lv_iload hx hb dL_does_48 (lv_at hl 0 rfl) ?_
            refine y_if_eq hx hb (by decide) (tgt := 62) dL_does_50 (by decide) (fun c50 => ?_) (fun c50 => ?_)
            · refine lv_iconst (v := nI 0) hx hb dL_does_62 (by decide) ?_
              exact r_z hx hb hrt9 hlk hS (Nat.le_of_ble_eq_true rfl) (Nat.le_of_ble_eq_true rfl) dL_does_63 rfl (by rw [doC_3a (Or.inr hK9)]; exact ⟨rfl, Y, hL, hT, fun j _ _ _ _ _ => rfl, fun i _ => rfl⟩)
            · exact absurd c50 (by decide)
          · exact absurd c35 (by decide)
        · exact absurd c19 (by decide)
      · obtain ⟨q9, hq31, rfl⟩ := nI_of (x := kd) (fun z => c1 z)
        have hl : lv_has ls 12 [(0, .int (nI 3)), (1, .int ((-1))), (2, .int (nI q9)), (3, .int v), (4, .ref (g + 1)), (5, .ref (g + 2)), (6, .ref (g + 3)), (7, .ref (g + 4)), (8, .ref (g + 9))] := hl
        refine lv_iload_n hx hb dL_does_4 rfl (lv_at hl 2 rfl) ?_
        refine lv_bipush (v := nI 6) hx hb dL_does_5 (by decide) ?_
        refine y_icmp_ge hx hb (by omega) (Nat.le_of_ble_eq_true rfl) (tgt := 14) dL_does_7 (by decide) (fun c7 => ?_) (fun c7 => ?_)
        · have hK9 : isK (nI q9) = false := decide_eq_false (fun z => nI_nlt c7 hq31 z.2)
          refine lv_iconst (v := nI 0) hx hb dL_does_14 (by decide) ?_
          refine lv_istore (lv' := [(9, .int (nI 0)), (0, .int (nI 3)), (1, .int ((-1))), (2, .int (nI q9)), (3, .int v), (4, .ref (g + 1)), (5, .ref (g + 2)), (6, .ref (g + 3)), (7, .ref (g + 4)), (8, .ref (g + 9))]) hx hb dL_does_15 hl (by decide) rfl (fun ls hl => ?_)
          refine lv_iload_n hx hb dL_does_17 rfl (lv_at hl 1 rfl) ?_
          refine lv_iconst (v := nI 2) hx hb dL_does_18 (by decide) ?_
          refine y_icmp_ne hx hb (by decide) (by decide) (tgt := 33) dL_does_19 (by decide) (fun c19 => ?_) (fun c19 => ?_)
          · refine lv_iload_n hx hb dL_does_33 rfl (lv_at hl 1 rfl) ?_
            refine lv_iconst (v := nI 2) hx hb dL_does_34 (by decide) ?_
            refine y_icmp_ne hx hb (by decide) (by decide) (tgt := 48) dL_does_35 (by decide) (fun c35 => ?_) (fun c35 => ?_)
            · refine lv_iload hx hb dL_does_48 (lv_at hl 0 rfl) ?_
              refine y_if_eq hx hb (by decide) (tgt := 62) dL_does_50 (by decide) (fun c50 => ?_) (fun c50 => ?_)
              · refine lv_iconst (v := nI 0) hx hb dL_does_62 (by decide) ?_
                exact r_z hx hb hrt9 hlk hS (Nat.le_of_ble_eq_true rfl) (Nat.le_of_ble_eq_true rfl) dL_does_63 rfl (by rw [doC_3a (Or.inr hK9)]; exact ⟨rfl, Y, hL, hT, fun j _ _ _ _ _ => rfl, fun i _ => rfl⟩)
              · exact absurd c50 (by decide)
            · exact absurd c35 (by decide)
          · exact absurd c19 (by decide)
        · have hq6 := c7
          have hK9 : isK (nI q9) = true := decide_eq_true ⟨nI_pos' (by omega), nI_lt hq6 (by decide)⟩
          refine lv_iconst (v := nI 1) hx hb dL_does_10 (by decide) ?_
          refine lv_goto (tgt := 15) hx hb dL_does_11 (by decide) ?_
          refine lv_istore (lv' := [(9, .int (nI 1)), (0, .int (nI 3)), (1, .int ((-1))), (2, .int (nI q9)), (3, .int v), (4, .ref (g + 1)), (5, .ref (g + 2)), (6, .ref (g + 3)), (7, .ref (g + 4)), (8, .ref (g + 9))]) hx hb dL_does_15 hl (by decide) rfl (fun ls hl => ?_)
          refine lv_iload_n hx hb dL_does_17 rfl (lv_at hl 1 rfl) ?_
          refine lv_iconst (v := nI 2) hx hb dL_does_18 (by decide) ?_
          refine y_icmp_ne hx hb (by decide) (by decide) (tgt := 33) dL_does_19 (by decide) (fun c19 => ?_) (fun c19 => ?_)
          · refine lv_iload_n hx hb dL_does_33 rfl (lv_at hl 1 rfl) ?_
            refine lv_iconst (v := nI 2) hx hb dL_does_34 (by decide) ?_
            refine y_icmp_ne hx hb (by decide) (by decide) (tgt := 48) dL_does_35 (by decide) (fun c35 => ?_) (fun c35 => ?_)
            · refine lv_iload hx hb dL_does_48 (lv_at hl 0 rfl) ?_
              refine y_if_eq hx hb (by decide) (tgt := 62) dL_does_50 (by decide) (fun c50 => ?_) (fun c50 => ?_)
              · exact absurd c50 (by decide)
              · refine lv_iload_n hx hb dL_does_53 rfl (lv_at hl 1 rfl) ?_
                refine lv_iconst (v := nI 3) hx hb dL_does_54 (by decide) ?_
                refine y_icmp_ge hx hb (by decide) (by decide) (tgt := 64) dL_does_55 (by decide) (fun c55 => ?_) (fun c55 => ?_)
                · refine lv_iload_n hx hb dL_does_64 rfl (lv_at hl 1 rfl) ?_
                  refine lv_iconst (v := nI 3) hx hb dL_does_65 (by decide) ?_
                  refine y_icmp_ne hx hb (by decide) (by decide) (tgt := 81) dL_does_66 (by decide) (fun c66 => ?_) (fun c66 => ?_)
                  · exact absurd c66 (by decide)
                  · refine lv_aload hx hb dL_does_69 (lv_at hl 5 rfl) ?_
                    refine lv_aload hx hb dL_does_71 (lv_at hl 8 rfl) ?_
                    refine lv_aload hx hb dL_does_73 (lv_at hl 9 rfl) ?_
                    refine k_ip (k_S (As := [.ref (g + 1), .ref (g + 4), .ref (g + 9)]) (rest := []) ⟨hx, hb, hml, hown, hts⟩ hev hS (c_L_make l hL hT iR (k := free E) rfl (hfr rfl)) (va_cwS 3 hts gL_does_L_make rfl rfl rfl (by decide +kernel) ⟨Nat.le_of_ble_eq_true rfl, Nat.le_of_ble_eq_true rfl⟩) rfl hl.1 (Nat.le_of_ble_eq_true rfl) dL_does_75 (Nat.le_of_ble_eq_true rfl) (Nat.le_of_ble_eq_true rfl)) hS hnt hlk (fun _ _ h _ => h.elim) (Nat.le_of_ble_eq_true rfl) (Nat.le_of_ble_eq_true rfl) (fun rq8_ H8 locs8 hP hz8 hS => ?_)
                    refine W.widen (k := 0) (n := 0) (Nat.le_refl _) (Nat.le_refl _) ?_
                    obtain ⟨er, Y5, hL, hT5, hj5, h95⟩ := hP
                    have hf10 := hfr rfl
                    have hf32 : ¬ free E = 32 := by omega
                    generalize hfr9 : free E = fr at *
                    refine x_top (y := (nI fr)) (er) ?_
                    have hx10 : fr < 10 := hf10
                    have hxal : mAl (makesE E fr) fr = true := nu_s
                    obtain ⟨iE5, iR5⟩ := makes_inv iE iR (show mAl E fr = false by rw [← hfr9]; exact free_al (by omega)) (by omega)
                    have hkd64 := iE5.1 fr
                    refine lv_goto (tgt := 82) hx hb dL_does_78 (by decide) ?_
                    refine lv_istore (lv' := [(10, .int (nI fr)), (9, .int (nI 1)), (0, .int (nI 3)), (1, .int ((-1))), (2, .int (nI q9)), (3, .int v), (4, .ref (g + 1)), (5, .ref (g + 2)), (6, .ref (g + 3)), (7, .ref (g + 4)), (8, .ref (g + 9))]) hx hb dL_does_82 hl (by decide) rfl (fun ls hl => ?_)
                    refine lv_aload hx hb dL_does_84 (lv_at hl 6 rfl) ?_
                    refine lv_bipush (v := nI 6) hx hb dL_does_86 (by decide) ?_
                    refine lv_iload hx hb dL_does_88 (lv_at hl 0 rfl) ?_
                    refine y_imul hx hb dL_does_90 ?_
                    refine lv_iconst (v := nI 2) hx hb dL_does_91 (by decide) ?_
                    refine y_iadd hx hb dL_does_92 ?_
                    refine n_ld1 (i := (6 * fr) + 2) hx hb hK hL (by omega) dL_does_93 ?_
                    refine x_top (y := (nI (mKd (makesE E fr) fr))) (hT5.1.2.2.1 fr hx10 hxal) ?_
                    refine lv_iload_n hx hb dL_does_94 rfl (lv_at hl 4 rfl) ?_
                    refine lv_ishr hx hb dL_does_95 ?_
                    refine lv_iconst (v := nI 1) hx hb dL_does_96 (by decide) ?_
                    refine lv_iand hx hb dL_does_97 ?_
                    refine x_top (y := (bI (bitS (mKd (makesE E fr) fr) q9))) (bit_val _ hkd64 q9 hq6) ?_
                    refine lv_iconst (v := nI 1) hx hb dL_does_98 (by decide) ?_
                    refine lv_icmp_ne (tgt := 106) hx hb dL_does_99 (by decide) (fun c99 => ?_) (fun c99 => ?_)
                    · have hbt := bI_n1 c99
                      refine lv_iconst (v := nI 0) hx hb dL_does_106 (by decide) ?_
                      refine lv_istore (lv' := [(11, .int (nI 0)), (10, .int (nI fr)), (9, .int (nI 1)), (0, .int (nI 3)), (1, .int ((-1))), (2, .int (nI q9)), (3, .int v), (4, .ref (g + 1)), (5, .ref (g + 2)), (6, .ref (g + 3)), (7, .ref (g + 4)), (8, .ref (g + 9))]) hx hb dL_does_107 hl (by decide) rfl (fun ls hl => ?_)
                      refine lv_iload hx hb dL_does_109 (lv_at hl 0 rfl) ?_
                      refine lv_iload_n hx hb dL_does_111 rfl (lv_at hl 3 rfl) ?_
                      refine lv_iconst (v := nI 1) hx hb dL_does_112 (by decide) ?_
                      refine y_icmp_ne hx hb (by decide) (by decide) (tgt := 120) dL_does_113 (by decide) (fun c113 => ?_) (fun c113 => ?_)
                      · refine lv_iconst (v := nI 0) hx hb dL_does_120 (by decide) ?_
                        refine y_icmp_eq hx hb (by decide) (by decide) (tgt := 126) dL_does_121 (by decide) (fun c121 => ?_) (fun c121 => ?_)
                        · refine lv_iload_n hx hb dL_does_126 rfl (lv_at hl 3 rfl) ?_
                          refine lv_iconst (v := nI 1) hx hb dL_does_127 (by decide) ?_
                          refine y_icmp_eq hx hb (by decide) (by decide) (tgt := 156) dL_does_128 (by decide) (fun c128 => ?_) (fun c128 => ?_)
                          · exact absurd c128 (by decide)
                          · refine lv_aload hx hb dL_does_131 (lv_at hl 8 rfl) ?_
                            refine lv_bipush (v := nI 6) hx hb dL_does_133 (by decide) ?_
                            refine lv_iload hx hb dL_does_135 (lv_at hl 1 rfl) ?_
                            refine y_imul hx hb dL_does_137 ?_
                            refine lv_iload_n hx hb dL_does_138 rfl (lv_at hl 5 rfl) ?_
                            refine y_iadd hx hb dL_does_139 ?_
                            refine lv_iload_n hx hb dL_does_140 rfl (lv_at hl 6 rfl) ?_
                            refine n_st2 (i := (6 * fr) + q9) (v := v) hx hb hK hS hL (fun _ h => h) (by omega) dL_does_141 (fun H9 locs9 hL hz9 hq9 hS => ?_)
                            refine lv_aload hx hb dL_does_142 (lv_at hl 9 rfl) ?_
                            refine lv_bipush (v := nI 6) hx hb dL_does_144 (by decide) ?_
                            refine lv_iload hx hb dL_does_146 (lv_at hl 1 rfl) ?_
                            refine y_imul hx hb dL_does_148 ?_
                            refine lv_iload_n hx hb dL_does_149 rfl (lv_at hl 5 rfl) ?_
                            refine y_iadd hx hb dL_does_150 ?_
                            refine lv_aload hx hb dL_does_151 (lv_at hl 11 rfl) ?_
                            refine lv_iconst (v := nI 1) hx hb dL_does_153 (by decide) ?_
                            refine n_ld9 (i := 1) hx hb hK hL (by omega) dL_does_154 ?_
                            refine x_top (y := tk) (by show Y5 9 1 = _; rw [h95 1 (by decide)]; exact ht) ?_
                            refine n_st3 (i := (6 * fr) + q9) (v := tk) hx hb hK hS hL (fun _ h => h) (by omega) dL_does_155 (fun H10 locs10 hL hz10 hq10 hS => ?_)
                            obtain ⟨Y6, hL, hy6⟩ : ∃ Y6, SL T g Y6 H10 ∧ Y6 = up2 (up2 Y5 2 (upd (Y5 2) ((6 * fr) + q9) v)) 3 (upd ((up2 Y5 2 (upd (Y5 2) ((6 * fr) + q9) v)) 3) ((6 * fr) + q9) tk) := ⟨_, hL, rfl⟩
                            have hT6 : LTw Y6 (putE (makesE E fr) fr q9 v tk) (rowAdd R 0 fr) := hT5.put hx10 hq6 (by rw [hy6]; rfl) (by rw [hy6]; rfl) (by rw [hy6]; rfl) (by rw [hy6]; rfl) (by rw [hy6]; rfl)
                            have iR6 : InvR (putE (makesE E fr) fr q9 v tk) (rowAdd R 0 fr) := put_invR iR5 _ _ _ _
                            have hj6 : ∀ j, j ≠ 2 → j ≠ 3 → Y6 j = Y5 j := fun j h2 h3 => by rw [hy6]; simp only [up2, if_neg h2, if_neg h3]
                            refine lv_iload hx hb dL_does_156 (lv_at hl 1 rfl) ?_
                            refine lv_aload hx hb dL_does_158 (lv_at hl 7 rfl) ?_
                            refine lv_bipush (v := nI 6) hx hb dL_does_160 (by decide) ?_
                            refine lv_iload hx hb dL_does_162 (lv_at hl 1 rfl) ?_
                            refine y_imul hx hb dL_does_164 ?_
                            refine lv_iconst (v := nI 2) hx hb dL_does_165 (by decide) ?_
                            refine y_iadd hx hb dL_does_166 ?_
                            refine n_ld1 (i := (6 * fr) + 2) hx hb hK hL (by omega) dL_does_167 ?_
                            refine x_top (y := (nI (mKd (makesE E fr) fr))) (hT6.1.2.2.1 fr hx10 hxal) ?_
                            refine lv_iconst (v := nI 1) hx hb dL_does_168 (by decide) ?_
                            refine lv_iload_n hx hb dL_does_169 rfl (lv_at hl 5 rfl) ?_
                            refine lv_ishl hx hb dL_does_170 ?_
                            refine lv_ixor hx hb dL_does_171 ?_
                            refine x_top (y := (nI (setB (mKd (makesE E fr) fr) q9))) ((bit_xor_f _ hkd64 q9 hq6 hbt).1) ?_
                            refine lv_aload hx hb dL_does_172 (lv_at hl 7 rfl) ?_
                            refine lv_aload hx hb dL_does_174 (lv_at hl 10 rfl) ?_
                            refine lv_aload hx hb dL_does_176 (lv_at hl 11 rfl) ?_
                            refine k_vp (k_S (As := [.int (nI fr), .int (nI (setB (mKd (makesE E fr) fr) q9)), .ref (g + 1), .ref (g + 4), .ref (g + 9)]) (rest := []) ⟨hx, hb, hml, hown, hts⟩ hev hS (c_L_change l hL hT6 iR6 (k := fr) hxal (bit_xor_f _ hkd64 q9 hq6 hbt).2) (va_cwS 5 hts gL_does_L_change rfl rfl rfl (by decide +kernel) ⟨Nat.le_of_ble_eq_true rfl, Nat.le_of_ble_eq_true rfl⟩) rfl hl.1 (Nat.le_of_ble_eq_true rfl) dL_does_178 (Nat.le_of_ble_eq_true rfl) (Nat.le_of_ble_eq_true rfl)) hS hnt hlk (fun _ _ h _ => h.elim) (Nat.le_of_ble_eq_true rfl) (Nat.le_of_ble_eq_true rfl) (fun H11 locs11 hP hz11 hS => ?_)
                            refine W.widen (k := 0) (n := 0) (Nat.le_refl _) (Nat.le_refl _) ?_
                            obtain ⟨Y7, hL, hT7, hj7, h97⟩ := hP
                            refine lv_iconst (v := nI 1) hx hb dL_does_181 (by decide) ?_
                            exact r_z hx hb hrt9 hlk hS (Nat.le_of_ble_eq_true rfl) (Nat.le_of_ble_eq_true rfl) dL_does_182 rfl (by rw [doC_3b hq6 (by rw [hfr9]; exact hf32) hK9, hfr9]; exact ⟨rfl, Y7, hL, hT7, fun j h1 h2 h3 h4 h9 => (hj7 j h1 h4 h9).trans ((hj6 j h2 h3).trans (hj5 j h1 h4 h9)), fun i hi => (h97 i hi).trans ((by rw [hj6 9 (by decide) (by decide)] : Y6 9 i = Y5 9 i).trans (h95 i hi))⟩)
                        · exact absurd c121 (by decide)
                      · exact absurd c113 (by decide)
                    · have hbt := bI_e1 c99
                      rw [show mKd (makesE E fr) fr = 0 from nu_s] at hbt
                      simp [bitS] at hbt
                · exact absurd c55 (by decide)
            · exact absurd c35 (by decide)
          · exact absurd c19 (by decide)
    · have hl : lv_has ls 12 [(0, .int (nI 3)), (1, .int (nI sl)), (2, .int kd), (3, .int v), (4, .ref (g + 1)), (5, .ref (g + 2)), (6, .ref (g + 3)), (7, .ref (g + 4)), (8, .ref (g + 9))] := hl
      obtain ⟨hs32, hal, hsh⟩ := look_some ho
      have hs10 := hT.1.2.2.2.2.1 sl hal
      have hx10 := hs10
      have hxal := hal
      have hkd64 := iE.1 sl
      refine lv_iload_n hx hb dL_does_0 rfl (lv_at hl 2 rfl) ?_
      refine lv_if_lt (tgt := 14) hx hb dL_does_1 (by decide) (fun c1 => ?_) (fun c1 => ?_)
      · have hK9 : isK kd = false := decide_eq_false (fun z => absurd c1 (Int32.not_lt.mpr z.1))
        refine lv_iconst (v := nI 0) hx hb dL_does_14 (by decide) ?_
        refine lv_istore (lv' := [(9, .int (nI 0)), (0, .int (nI 3)), (1, .int (nI sl)), (2, .int kd), (3, .int v), (4, .ref (g + 1)), (5, .ref (g + 2)), (6, .ref (g + 3)), (7, .ref (g + 4)), (8, .ref (g + 9))]) hx hb dL_does_15 hl (by decide) rfl (fun ls hl => ?_)
        refine lv_iload_n hx hb dL_does_17 rfl (lv_at hl 1 rfl) ?_
        refine lv_iconst (v := nI 2) hx hb dL_does_18 (by decide) ?_
        refine y_icmp_ne hx hb (by decide) (by decide) (tgt := 33) dL_does_19 (by decide) (fun c19 => ?_) (fun c19 => ?_)
        · refine lv_iload_n hx hb dL_does_33 rfl (lv_at hl 1 rfl) ?_
          refine lv_iconst (v := nI 2) hx hb dL_does_34 (by decide) ?_
          refine y_icmp_ne hx hb (by decide) (by decide) (tgt := 48) dL_does_35 (by decide) (fun c35 => ?_) (fun c35 => ?_)
          · refine lv_iload hx hb dL_does_48 (lv_at hl 0 rfl) ?_
            refine y_if_eq hx hb (by decide) (tgt := 62) dL_does_50 (by decide) (fun c50 => ?_) (fun c50 => ?_)
            · refine lv_iconst (v := nI 0) hx hb dL_does_62 (by decide) ?_
              exact r_z hx hb hrt9 hlk hS (Nat.le_of_ble_eq_true rfl) (Nat.le_of_ble_eq_true rfl) dL_does_63 rfl (by rw [doC_3a (Or.inr hK9)]; exact ⟨rfl, Y, hL, hT, fun j _ _ _ _ _ => rfl, fun i _ => rfl⟩)
            · exact absurd c50 (by decide)
          · exact absurd c35 (by decide)
        · exact absurd c19 (by decide)
      · obtain ⟨q9, hq31, rfl⟩ := nI_of (x := kd) (fun z => c1 z)
        have hl : lv_has ls 12 [(0, .int (nI 3)), (1, .int (nI sl)), (2, .int (nI q9)), (3, .int v), (4, .ref (g + 1)), (5, .ref (g + 2)), (6, .ref (g + 3)), (7, .ref (g + 4)), (8, .ref (g + 9))] := hl
        refine lv_iload_n hx hb dL_does_4 rfl (lv_at hl 2 rfl) ?_
        refine lv_bipush (v := nI 6) hx hb dL_does_5 (by decide) ?_
        refine y_icmp_ge hx hb (by omega) (Nat.le_of_ble_eq_true rfl) (tgt := 14) dL_does_7 (by decide) (fun c7 => ?_) (fun c7 => ?_)
        · have hK9 : isK (nI q9) = false := decide_eq_false (fun z => nI_nlt c7 hq31 z.2)
          refine lv_iconst (v := nI 0) hx hb dL_does_14 (by decide) ?_
          refine lv_istore (lv' := [(9, .int (nI 0)), (0, .int (nI 3)), (1, .int (nI sl)), (2, .int (nI q9)), (3, .int v), (4, .ref (g + 1)), (5, .ref (g + 2)), (6, .ref (g + 3)), (7, .ref (g + 4)), (8, .ref (g + 9))]) hx hb dL_does_15 hl (by decide) rfl (fun ls hl => ?_)
          refine lv_iload_n hx hb dL_does_17 rfl (lv_at hl 1 rfl) ?_
          refine lv_iconst (v := nI 2) hx hb dL_does_18 (by decide) ?_
          refine y_icmp_ne hx hb (by decide) (by decide) (tgt := 33) dL_does_19 (by decide) (fun c19 => ?_) (fun c19 => ?_)
          · refine lv_iload_n hx hb dL_does_33 rfl (lv_at hl 1 rfl) ?_
            refine lv_iconst (v := nI 2) hx hb dL_does_34 (by decide) ?_
            refine y_icmp_ne hx hb (by decide) (by decide) (tgt := 48) dL_does_35 (by decide) (fun c35 => ?_) (fun c35 => ?_)
            · refine lv_iload hx hb dL_does_48 (lv_at hl 0 rfl) ?_
              refine y_if_eq hx hb (by decide) (tgt := 62) dL_does_50 (by decide) (fun c50 => ?_) (fun c50 => ?_)
              · refine lv_iconst (v := nI 0) hx hb dL_does_62 (by decide) ?_
                exact r_z hx hb hrt9 hlk hS (Nat.le_of_ble_eq_true rfl) (Nat.le_of_ble_eq_true rfl) dL_does_63 rfl (by rw [doC_3a (Or.inr hK9)]; exact ⟨rfl, Y, hL, hT, fun j _ _ _ _ _ => rfl, fun i _ => rfl⟩)
              · exact absurd c50 (by decide)
            · exact absurd c35 (by decide)
          · exact absurd c19 (by decide)
        · have hq6 := c7
          have hK9 : isK (nI q9) = true := decide_eq_true ⟨nI_pos' (by omega), nI_lt hq6 (by decide)⟩
          refine lv_iconst (v := nI 1) hx hb dL_does_10 (by decide) ?_
          refine lv_goto (tgt := 15) hx hb dL_does_11 (by decide) ?_
          refine lv_istore (lv' := [(9, .int (nI 1)), (0, .int (nI 3)), (1, .int (nI sl)), (2, .int (nI q9)), (3, .int v), (4, .ref (g + 1)), (5, .ref (g + 2)), (6, .ref (g + 3)), (7, .ref (g + 4)), (8, .ref (g + 9))]) hx hb dL_does_15 hl (by decide) rfl (fun ls hl => ?_)
          refine lv_iload_n hx hb dL_does_17 rfl (lv_at hl 1 rfl) ?_
          refine lv_iconst (v := nI 2) hx hb dL_does_18 (by decide) ?_
          refine y_icmp_ne hx hb (by decide) (by decide) (tgt := 33) dL_does_19 (by decide) (fun c19 => ?_) (fun c19 => ?_)
          · refine lv_iload_n hx hb dL_does_33 rfl (lv_at hl 1 rfl) ?_
            refine lv_iconst (v := nI 2) hx hb dL_does_34 (by decide) ?_
            refine y_icmp_ne hx hb (by decide) (by decide) (tgt := 48) dL_does_35 (by decide) (fun c35 => ?_) (fun c35 => ?_)
            · refine lv_iload hx hb dL_does_48 (lv_at hl 0 rfl) ?_
              refine y_if_eq hx hb (by decide) (tgt := 62) dL_does_50 (by decide) (fun c50 => ?_) (fun c50 => ?_)
              · exact absurd c50 (by decide)
              · refine lv_iload_n hx hb dL_does_53 rfl (lv_at hl 1 rfl) ?_
                refine lv_iconst (v := nI 3) hx hb dL_does_54 (by decide) ?_
                refine y_icmp_ge hx hb (by decide) (by decide) (tgt := 64) dL_does_55 (by decide) (fun c55 => ?_) (fun c55 => ?_)
                · refine lv_iload_n hx hb dL_does_64 rfl (lv_at hl 1 rfl) ?_
                  refine lv_iconst (v := nI 3) hx hb dL_does_65 (by decide) ?_
                  refine y_icmp_ne hx hb (by decide) (by decide) (tgt := 81) dL_does_66 (by decide) (fun c66 => ?_) (fun c66 => ?_)
                  · exact absurd c66 (by decide)
                  · refine lv_aload hx hb dL_does_69 (lv_at hl 5 rfl) ?_
                    refine lv_aload hx hb dL_does_71 (lv_at hl 8 rfl) ?_
                    refine lv_aload hx hb dL_does_73 (lv_at hl 9 rfl) ?_
                    refine k_ip (k_S (As := [.ref (g + 1), .ref (g + 4), .ref (g + 9)]) (rest := []) ⟨hx, hb, hml, hown, hts⟩ hev hS (c_L_make l hL hT iR (k := free E) rfl (hfr rfl)) (va_cwS 3 hts gL_does_L_make rfl rfl rfl (by decide +kernel) ⟨Nat.le_of_ble_eq_true rfl, Nat.le_of_ble_eq_true rfl⟩) rfl hl.1 (Nat.le_of_ble_eq_true rfl) dL_does_75 (Nat.le_of_ble_eq_true rfl) (Nat.le_of_ble_eq_true rfl)) hS hnt hlk (fun _ _ h _ => h.elim) (Nat.le_of_ble_eq_true rfl) (Nat.le_of_ble_eq_true rfl) (fun rq12_ H12 locs12 hP hz12 hS => ?_)
                    refine W.widen (k := 0) (n := 0) (Nat.le_refl _) (Nat.le_refl _) ?_
                    obtain ⟨er, Y5, hL, hT5, hj5, h95⟩ := hP
                    have hf10 := hfr rfl
                    have hf32 : ¬ free E = 32 := by omega
                    generalize hfr9 : free E = fr at *
                    refine x_top (y := (nI fr)) (er) ?_
                    have hx10 : fr < 10 := hf10
                    have hxal : mAl (makesE E fr) fr = true := nu_s
                    obtain ⟨iE5, iR5⟩ := makes_inv iE iR (show mAl E fr = false by rw [← hfr9]; exact free_al (by omega)) (by omega)
                    have hkd64 := iE5.1 fr
                    refine lv_goto (tgt := 82) hx hb dL_does_78 (by decide) ?_
                    refine lv_istore (lv' := [(10, .int (nI fr)), (9, .int (nI 1)), (0, .int (nI 3)), (1, .int (nI sl)), (2, .int (nI q9)), (3, .int v), (4, .ref (g + 1)), (5, .ref (g + 2)), (6, .ref (g + 3)), (7, .ref (g + 4)), (8, .ref (g + 9))]) hx hb dL_does_82 hl (by decide) rfl (fun ls hl => ?_)
                    refine lv_aload hx hb dL_does_84 (lv_at hl 6 rfl) ?_
                    refine lv_bipush (v := nI 6) hx hb dL_does_86 (by decide) ?_
                    refine lv_iload hx hb dL_does_88 (lv_at hl 0 rfl) ?_
                    refine y_imul hx hb dL_does_90 ?_
                    refine lv_iconst (v := nI 2) hx hb dL_does_91 (by decide) ?_
                    refine y_iadd hx hb dL_does_92 ?_
                    refine n_ld1 (i := (6 * fr) + 2) hx hb hK hL (by omega) dL_does_93 ?_
                    refine x_top (y := (nI (mKd (makesE E fr) fr))) (hT5.1.2.2.1 fr hx10 hxal) ?_
                    refine lv_iload_n hx hb dL_does_94 rfl (lv_at hl 4 rfl) ?_
                    refine lv_ishr hx hb dL_does_95 ?_
                    refine lv_iconst (v := nI 1) hx hb dL_does_96 (by decide) ?_
                    refine lv_iand hx hb dL_does_97 ?_
                    refine x_top (y := (bI (bitS (mKd (makesE E fr) fr) q9))) (bit_val _ hkd64 q9 hq6) ?_
                    refine lv_iconst (v := nI 1) hx hb dL_does_98 (by decide) ?_
                    refine lv_icmp_ne (tgt := 106) hx hb dL_does_99 (by decide) (fun c99 => ?_) (fun c99 => ?_)
                    · have hbt := bI_n1 c99
                      refine lv_iconst (v := nI 0) hx hb dL_does_106 (by decide) ?_
                      refine lv_istore (lv' := [(11, .int (nI 0)), (10, .int (nI fr)), (9, .int (nI 1)), (0, .int (nI 3)), (1, .int (nI sl)), (2, .int (nI q9)), (3, .int v), (4, .ref (g + 1)), (5, .ref (g + 2)), (6, .ref (g + 3)), (7, .ref (g + 4)), (8, .ref (g + 9))]) hx hb dL_does_107 hl (by decide) rfl (fun ls hl => ?_)
                      refine lv_iload hx hb dL_does_109 (lv_at hl 0 rfl) ?_
                      refine lv_iload_n hx hb dL_does_111 rfl (lv_at hl 3 rfl) ?_
                      refine lv_iconst (v := nI 1) hx hb dL_does_112 (by decide) ?_
                      refine y_icmp_ne hx hb (by decide) (by decide) (tgt := 120) dL_does_113 (by decide) (fun c113 => ?_) (fun c113 => ?_)
                      · refine lv_iconst (v := nI 0) hx hb dL_does_120 (by decide) ?_
                        refine y_icmp_eq hx hb (by decide) (by decide) (tgt := 126) dL_does_121 (by decide) (fun c121 => ?_) (fun c121 => ?_)
                        · refine lv_iload_n hx hb dL_does_126 rfl (lv_at hl 3 rfl) ?_
                          refine lv_iconst (v := nI 1) hx hb dL_does_127 (by decide) ?_
                          refine y_icmp_eq hx hb (by decide) (by decide) (tgt := 156) dL_does_128 (by decide) (fun c128 => ?_) (fun c128 => ?_)
                          · exact absurd c128 (by decide)
                          · refine lv_aload hx hb dL_does_131 (lv_at hl 8 rfl) ?_
                            refine lv_bipush (v := nI 6) hx hb dL_does_133 (by decide) ?_
                            refine lv_iload hx hb dL_does_135 (lv_at hl 1 rfl) ?_
                            refine y_imul hx hb dL_does_137 ?_
                            refine lv_iload_n hx hb dL_does_138 rfl (lv_at hl 5 rfl) ?_
                            refine y_iadd hx hb dL_does_139 ?_
                            refine lv_iload_n hx hb dL_does_140 rfl (lv_at hl 6 rfl) ?_
                            refine n_st2 (i := (6 * fr) + q9) (v := v) hx hb hK hS hL (fun _ h => h) (by omega) dL_does_141 (fun H13 locs13 hL hz13 hq13 hS => ?_)
                            refine lv_aload hx hb dL_does_142 (lv_at hl 9 rfl) ?_
                            refine lv_bipush (v := nI 6) hx hb dL_does_144 (by decide) ?_
                            refine lv_iload hx hb dL_does_146 (lv_at hl 1 rfl) ?_
                            refine y_imul hx hb dL_does_148 ?_
                            refine lv_iload_n hx hb dL_does_149 rfl (lv_at hl 5 rfl) ?_
                            refine y_iadd hx hb dL_does_150 ?_
                            refine lv_aload hx hb dL_does_151 (lv_at hl 11 rfl) ?_
                            refine lv_iconst (v := nI 1) hx hb dL_does_153 (by decide) ?_
                            refine n_ld9 (i := 1) hx hb hK hL (by omega) dL_does_154 ?_
                            refine x_top (y := tk) (by show Y5 9 1 = _; rw [h95 1 (by decide)]; exact ht) ?_
                            refine n_st3 (i := (6 * fr) + q9) (v := tk) hx hb hK hS hL (fun _ h => h) (by omega) dL_does_155 (fun H14 locs14 hL hz14 hq14 hS => ?_)
                            obtain ⟨Y6, hL, hy6⟩ : ∃ Y6, SL T g Y6 H14 ∧ Y6 = up2 (up2 Y5 2 (upd (Y5 2) ((6 * fr) + q9) v)) 3 (upd ((up2 Y5 2 (upd (Y5 2) ((6 * fr) + q9) v)) 3) ((6 * fr) + q9) tk) := ⟨_, hL, rfl⟩
                            have hT6 : LTw Y6 (putE (makesE E fr) fr q9 v tk) (rowAdd R 0 fr) := hT5.put hx10 hq6 (by rw [hy6]; rfl) (by rw [hy6]; rfl) (by rw [hy6]; rfl) (by rw [hy6]; rfl) (by rw [hy6]; rfl)
                            have iR6 : InvR (putE (makesE E fr) fr q9 v tk) (rowAdd R 0 fr) := put_invR iR5 _ _ _ _
                            have hj6 : ∀ j, j ≠ 2 → j ≠ 3 → Y6 j = Y5 j := fun j h2 h3 => by rw [hy6]; simp only [up2, if_neg h2, if_neg h3]
                            refine lv_iload hx hb dL_does_156 (lv_at hl 1 rfl) ?_
                            refine lv_aload hx hb dL_does_158 (lv_at hl 7 rfl) ?_
                            refine lv_bipush (v := nI 6) hx hb dL_does_160 (by decide) ?_
                            refine lv_iload hx hb dL_does_162 (lv_at hl 1 rfl) ?_
                            refine y_imul hx hb dL_does_164 ?_
                            refine lv_iconst (v := nI 2) hx hb dL_does_165 (by decide) ?_
                            refine y_iadd hx hb dL_does_166 ?_
                            refine n_ld1 (i := (6 * fr) + 2) hx hb hK hL (by omega) dL_does_167 ?_
                            refine x_top (y := (nI (mKd (makesE E fr) fr))) (hT6.1.2.2.1 fr hx10 hxal) ?_
                            refine lv_iconst (v := nI 1) hx hb dL_does_168 (by decide) ?_
                            refine lv_iload_n hx hb dL_does_169 rfl (lv_at hl 5 rfl) ?_
                            refine lv_ishl hx hb dL_does_170 ?_
                            refine lv_ixor hx hb dL_does_171 ?_
                            refine x_top (y := (nI (setB (mKd (makesE E fr) fr) q9))) ((bit_xor_f _ hkd64 q9 hq6 hbt).1) ?_
                            refine lv_aload hx hb dL_does_172 (lv_at hl 7 rfl) ?_
                            refine lv_aload hx hb dL_does_174 (lv_at hl 10 rfl) ?_
                            refine lv_aload hx hb dL_does_176 (lv_at hl 11 rfl) ?_
                            refine k_vp (k_S (As := [.int (nI fr), .int (nI (setB (mKd (makesE E fr) fr) q9)), .ref (g + 1), .ref (g + 4), .ref (g + 9)]) (rest := []) ⟨hx, hb, hml, hown, hts⟩ hev hS (c_L_change l hL hT6 iR6 (k := fr) hxal (bit_xor_f _ hkd64 q9 hq6 hbt).2) (va_cwS 5 hts gL_does_L_change rfl rfl rfl (by decide +kernel) ⟨Nat.le_of_ble_eq_true rfl, Nat.le_of_ble_eq_true rfl⟩) rfl hl.1 (Nat.le_of_ble_eq_true rfl) dL_does_178 (Nat.le_of_ble_eq_true rfl) (Nat.le_of_ble_eq_true rfl)) hS hnt hlk (fun _ _ h _ => h.elim) (Nat.le_of_ble_eq_true rfl) (Nat.le_of_ble_eq_true rfl) (fun H15 locs15 hP hz15 hS => ?_)
                            refine W.widen (k := 0) (n := 0) (Nat.le_refl _) (Nat.le_refl _) ?_
                            obtain ⟨Y7, hL, hT7, hj7, h97⟩ := hP
                            refine lv_iconst (v := nI 1) hx hb dL_does_181 (by decide) ?_
                            exact r_z hx hb hrt9 hlk hS (Nat.le_of_ble_eq_true rfl) (Nat.le_of_ble_eq_true rfl) dL_does_182 rfl (by rw [doC_3b hq6 (by rw [hfr9]; exact hf32) hK9, hfr9]; exact ⟨rfl, Y7, hL, hT7, fun j h1 h2 h3 h4 h9 => (hj7 j h1 h4 h9).trans ((hj6 j h2 h3).trans (hj5 j h1 h4 h9)), fun i hi => (h97 i hi).trans ((by rw [hj6 9 (by decide) (by decide)] : Y6 9 i = Y5 9 i).trans (h95 i hi))⟩)
                        · exact absurd c121 (by decide)
                      · exact absurd c113 (by decide)
                    · have hbt := bI_e1 c99
                      rw [show mKd (makesE E fr) fr = 0 from nu_s] at hbt
                      simp [bitS] at hbt
                · exact absurd c55 (by decide)
            · exact absurd c35 (by decide)
          · exact absurd c19 (by decide)

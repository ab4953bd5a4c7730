theorem nO_eq {o : Option Nat} {a : Nat} (ha : a < 2 ^ 31) (h : ∀ k, o = some k → k < 2 ^ 31) (e : nO o = nI a) : o = some a := (nO_inj h (fun k hk => by rw [← Option.some.inj hk]; exact ha)).mp e
theorem LTw.ended {Y Y6 : Nat → Nat → Int32} {E : mE} {R : mR} (hT : LTw Y E R) (iR : InvR E R) {a j0 z : Nat} (hal : mAl E a = true) (hr : row R (mKd E a) < rN R) (hj : j0 < rZ R (row R (mKd E a))) (e0 : rM R (row R (mKd E a)) j0 = a) (hz : rZ R (row R (mKd E a)) = z + 1) (e16 : Y6 1 = edF (Y 1) a (rM R (row R (mKd E a)) z) (mHad E a)) (hj6 : ∀ j, j ≠ 1 → Y6 j = Y j) : LTw Y6 (endE E a) (endR E R a) := by
  have ok := okOf hT.1 iR
  have ha10 := hT.1.2.2.2.2.1 a hal
  have ok1 := (ok.del hr hj e0).1
  have hM := hT.2.2.leave ok hr hj e0 hz rfl
  refine ⟨hT.1.ends ha10 (fun i hi => ?_) (hj6 2 (by decide)) (hj6 3 (by decide)), hT.2.1.cong rfl rfl (by rw [hj6 9 (by decide)]) (hj6 4 (by decide)), ?_⟩
  · rw [e16]
    refine ⟨?_, ?_, ?_, ?_⟩
    · by_cases c : i = a
      · rw [if_pos c, c, ed_0]
      · rw [if_neg c, ed_a (by omega) (by omega), lv_a (by omega) (by omega)]
    · by_cases c : i = a
      · rw [if_pos c, c, ed_1]
      · rw [if_neg c, ed_a (by omega) (by omega), lv_a (by omega) (by omega)]
    · rw [ed_a (by omega) (by omega), lv_a (by omega) (by omega)]
    · rw [ed_a (by omega) (by omega), lv_a (by omega) (by omega)]
  · rw [e16]
    exact hM.gone upd_s ok1 (fun i => ⟨ed_a (by omega) (by omega), ed_a (by omega) (by omega)⟩)
set_option maxHeartbeats 4000000 in
set_option maxRecDepth 100000 in
theorem c_L_end (l : Launch) {D : va_G} {T : Nat → ClassId} {dE mi : Nat} {g : Nat} {Y : Nat → Nat → Int32} {H : Heap} (hL : SL T g Y H) {E : mE} {R : mR} (hT : LTw Y E R) (iE : InvE E) (iR : InvR E R) {k : Nat} (hal : mAl E k = true) : vx_Met l yL_end wsL_end (rmL 2 0 0) (PcE D T dE mi (AS g) H [.int (nI k), .ref (g + 1)]) (QI (AS g) (fun r H1 => r = nI (ends E R k).2.2 ∧ ∃ Y1, SL T g Y1 H1 ∧ LTw Y1 (ends E R k).1 (ends E R k).2.1 ∧ ∀ j, j ≠ 1 → Y1 j = Y j)) (XX (AS g) (XN)) 0 0 (AS g) := by
  refine entry (cc := cL_end) (maxL := 6) (ret := (some .int)) (by decide) rfl (Nat.le_of_ble_eq_true rfl) ?_
  intro p e s m args below meth c hx hb hrt9 hml hown hts hlk hnt hnm hev hS ls hl
  have hown : s.vm.findClass RL = some m.cls := hown
  have hK := hev.1
  have hl : lv_has ls 6 [(0, .int (nI k)), (1, .ref (g + 1))] := hl
  have hk10 := hT.1.2.2.2.2.1 k hal
  refine lv_iconst (v := nI 0) hx hb dL_end_0 (by decide) ?_
  refine lv_istore_n (lv' := [(2, .int (nI 0)), (0, .int (nI k)), (1, .ref (g + 1))]) hx hb dL_end_1 rfl hl (by decide) rfl (fun ls hl => ?_)
  refine lv_iload_n hx hb dL_end_2 rfl (lv_at hl 1 rfl) ?_
  refine lv_istore_n (lv' := [(3, .int (nI k)), (2, .int (nI 0)), (0, .int (nI k)), (1, .ref (g + 1))]) hx hb dL_end_3 rfl hl (by decide) rfl (fun ls hl => ?_)
  have loop4 : ∀ (n : Nat) (Y9 : Nat → Nat → Int32) (E9 : mE) (R9 : mR) (c9 : Nat) (x9 : Int32) (pl : List Nat) (m9 fu : Nat) (H9 : Heap) (locs9 : List Loc), fu < n → (SL T g Y9 H9) → (va_S (AS g) s.heap H9 locs9) → (LTw Y9 E9 R9) → (InvE0 E9) → (InvR E9 R9) → (InvP E9 pl) → (endsL m9 pl E9 R9 c9 = ends E R k) → (cnt (mAl E9) 32 < m9) → (∀ j, j ≠ 1 → Y9 j = Y j) → (EndI (Y9 1) E9 k x9 pl fu) → ∀ (ls : Array Slot), lv_has ls 6 [(3, .int x9), (2, .int (nI c9)), (0, .int (nI k)), (1, .ref (g + 1))] → W p l e (rmL 2 0 0) s m args below meth c H9 locs9 (0) (0) (vx_MQ below (QI (AS g) (fun r H1 => r = nI (ends E R k).2.2 ∧ ∃ Y1, SL T g Y1 H1 ∧ LTw Y1 (ends E R k).1 (ends E R k).2.1 ∧ ∀ j, j ≠ 1 → Y1 j = Y j)) (XX (AS g) (XN)) args s 0 0 (AS g)) (F0 m 4 ls []) := by
    intro n
    induction n with
    | zero => intro Y9 E9 R9 c9 x9 pl m9 fu H9 locs9 hfuel; exact absurd hfuel (Nat.not_lt_zero _)
    | succ n ih4 =>
      intro Y9 E9 R9 c9 x9 pl m9 fu H9 locs9 hfuel hL hS hT9 iE9 iR9 iP9 he9 hm9 hy9 hI ls hl
      rcases hI with ⟨a, ch, st, rfl, rfl, hA, hfu⟩ | ⟨a, ch, rfl, rfl, hA, hfu⟩ | ⟨rfl, rfl⟩
      · have hl : lv_has ls 6 [(3, .int (nI a)), (2, .int (nI c9)), (0, .int (nI k)), (1, .ref (g + 1))] := hl
        have ha10 := hT9.1.2.2.2.2.1 a hA.1
        obtain ⟨fu, rfl⟩ : ∃ q, fu = q + 1 := ⟨fu - 1, by omega⟩
        have ok9 := okOf hT9.1 iR9
        obtain ⟨j0, z, hr, hj, e0, hz⟩ := stands iR9 hA.1
        have hself : ∀ x, mPar E9 x ≠ some x := fun x e => by
          obtain ⟨dp, hdp⟩ := iE9.2.2.2
          have := (hdp x x e).1
          omega
        refine lv_iload_n hx hb dL_end_4 rfl (lv_at hl 0 rfl) ?_
        refine y_if_lt hx hb (by omega) (tgt := 127) dL_end_5 (by decide) (fun c5 => ?_) (fun c5 => ?_)
        · exact c5.elim
        · refine lv_aload_n hx hb dL_end_8 rfl (lv_at hl 3 rfl) ?_
          refine lv_bipush (v := nI 6) hx hb dL_end_9 (by decide) ?_
          refine lv_iload_n hx hb dL_end_11 rfl (lv_at hl 0 rfl) ?_
          refine y_imul hx hb dL_end_12 ?_
          refine n_ld1 (i := 6 * a) hx hb hK hL (by omega) dL_end_13 ?_
          refine x_top (y := (nI 1)) (by rw [hT9.1.1 a ha10, hA.1]; rfl) ?_
          refine lv_iconst (v := nI 1) hx hb dL_end_14 (by decide) ?_
          refine y_icmp_ne hx hb (by decide) (by decide) (tgt := 45) dL_end_15 (by decide) (fun c15 => ?_) (fun c15 => ?_)
          · exact absurd c15 (by decide)
          · refine lv_iload_n hx hb dL_end_18 rfl (lv_at hl 0 rfl) ?_
            refine lv_aload_n hx hb dL_end_19 rfl (lv_at hl 3 rfl) ?_
            refine k_vp (k_S (As := [.int (nI a), .ref (g + 1)]) (rest := []) ⟨hx, hb, hml, hown, hts⟩ hev hS (c_L_leave l hL hT9.1 hT9.2.2 ok9 ha10 hr hj e0 hz) (va_cwS 2 hts gL_end_L_leave rfl rfl rfl (by decide +kernel) ⟨Nat.le_of_ble_eq_true rfl, Nat.le_of_ble_eq_true rfl⟩) rfl hl.1 (Nat.le_of_ble_eq_true rfl) dL_end_20 (Nat.le_of_ble_eq_true rfl) (Nat.le_of_ble_eq_true rfl)) hS hnt hlk (fun _ _ h _ => h.elim) (Nat.le_of_ble_eq_true rfl) (Nat.le_of_ble_eq_true rfl) (fun H1 locs1 hP hz1 hS => ?_)
            refine W.widen (k := 0) (n := 0) (Nat.le_refl _) (Nat.le_refl _) ?_
            obtain ⟨Y5, hL, e15, hj5⟩ := hP
            refine lv_aload_n hx hb dL_end_23 rfl (lv_at hl 3 rfl) ?_
            refine lv_bipush (v := nI 6) hx hb dL_end_24 (by decide) ?_
            refine lv_iload_n hx hb dL_end_26 rfl (lv_at hl 0 rfl) ?_
            refine y_imul hx hb dL_end_27 ?_
            refine lv_iconst (v := nI 0) hx hb dL_end_28 (by decide) ?_
            refine n_st1 (i := 6 * a) (v := (nI 0)) hx hb hK hS hL (fun _ h => h) (by omega) dL_end_29 (fun H2 locs2 hL hz2 hq2 hS => ?_)
            refine lv_aload_n hx hb dL_end_30 rfl (lv_at hl 3 rfl) ?_
            refine lv_bipush (v := nI 6) hx hb dL_end_31 (by decide) ?_
            refine lv_iload_n hx hb dL_end_33 rfl (lv_at hl 0 rfl) ?_
            refine y_imul hx hb dL_end_34 ?_
            refine lv_iconst (v := nI 1) hx hb dL_end_35 (by decide) ?_
            refine y_iadd hx hb dL_end_36 ?_
            refine lv_dup2_11 hx hb dL_end_37 rfl rfl ?_
            refine n_ld1 (i := (6 * a) + 1) hx hb hK hL (by omega) dL_end_38 ?_
            refine x_top (y := (nI (mHad E9 a))) (by show upd (Y5 1) (6 * a) (nI 0) (6 * a + 1) = _; rw [upd_n (by omega), e15, lv_a (by omega) (by omega)]; exact hT9.1.2.1 a ha10) ?_
            refine lv_iconst (v := nI 1) hx hb dL_end_39 (by decide) ?_
            refine y_iadd hx hb dL_end_40 ?_
            refine n_st1 (i := (6 * a) + 1) (v := (nI ((mHad E9 a) + 1))) hx hb hK hS hL (fun _ h => h) (by omega) dL_end_41 (fun H3 locs3 hL hz3 hq3 hS => ?_)
            refine lv_iinc (v := (nI (c9 + 1))) (lv' := [(2, .int (nI (c9 + 1))), (3, .int (nI a)), (0, .int (nI k)), (1, .ref (g + 1))]) hx hb dL_end_42 hl (k := 1) rfl (nI_inc _) (by decide) rfl (fun ls hl => ?_)
            have hYe : (up2 (up2 Y5 1 (upd (Y5 1) (6 * a) (nI 0))) 1 (upd ((up2 Y5 1 (upd (Y5 1) (6 * a) (nI 0))) 1) ((6 * a) + 1) (nI ((mHad E9 a) + 1)))) 1 = edF (Y9 1) a (rM R9 (row R9 (mKd E9 a)) z) (mHad E9 a) := by
              show upd (upd (Y5 1) _ _) _ _ = _
              rw [e15]
              rfl
            obtain ⟨E8, R8, Y8, c8, m8, hc8, hL, hT8, iE8, iR8, iP8, hen8, hm8, hy8, hch8, hfu8⟩ : ∃ (E8 : mE) (R8 : mR) (Y8 : Nat → Nat → Int32) (c8 m8 : Nat), nI (c9 + 1) = nI c8 ∧ SL T g Y8 H3 ∧ LTw Y8 E8 R8 ∧ InvE0 E8 ∧ InvR E8 R8 ∧ InvP E8 (flat E8 (a :: ch)) ∧ endsL m8 (flat E8 (a :: ch)) E8 R8 c8 = ends E R k ∧ cnt (mAl E8) 32 < m8 ∧ (∀ j, j ≠ 1 → Y8 j = Y j) ∧ Chn (Y8 1) E8 k (a :: ch) ∧ 2 * cnt (mAl E8) 32 + ch.length + 3 ≤ fu + 1 := by
              obtain ⟨g1, g2⟩ := hA.gone (F1 := (up2 (up2 Y5 1 (upd (Y5 1) (6 * a) (nI 0))) 1 (upd ((up2 Y5 1 (upd (Y5 1) (6 * a) (nI 0))) 1) ((6 * a) + 1) (nI ((mHad E9 a) + 1)))) 1) (hself a) (hT9.1.2.2.2.1 a ha10 hA.1) (fun i => by rw [hYe]; rw [ed_a (by omega) (by omega), lv_a (by omega) (by omega)]) ha10
              obtain ⟨l1, l2⟩ := leave0 iE9 iR9 hA.1
              have hcu := cnt_upd (mAl E9) hA.1 32
              rw [if_pos (by omega)] at hcu
              obtain ⟨m8, rfl⟩ : ∃ q, m9 = q + 1 := ⟨m9 - 1, by omega⟩
              refine ⟨endE E9 a, endR E9 R9 a, _, c9 + 1, m8, rfl, hL, hT9.ended iR9 hA.1 hr hj e0 hz hYe (fun j h => by simp only [up2, if_neg h]; exact hj5 j h), l1, l2, ?_, ?_, by show cnt (nu (mAl E9) a false) 32 < m8; omega, fun j h => by simp only [up2, if_neg h]; exact (hj5 j h).trans (hy9 j h), g1, by show 2 * cnt (nu (mAl E9) a false) 32 + ch.length + 3 ≤ fu + 1; omega⟩
              · rw [← g2]; exact iP9.step iE9
              · rw [← g2]; exact he9
            have hl : lv_has ls 6 [(2, .int (nI c8)), (3, .int (nI a)), (0, .int (nI k)), (1, .ref (g + 1))] := by
              have e9 : (nI (c9 + 1)) = (nI c8) := hc8
              first
                | (rw [← e9]; exact hl)
                | (rw [e9] at hl; exact hl)
            have h10 := hT8.1.2.2.2.2.1
            have hpal : ∀ k j, mPar E8 k = some j → mAl E8 k = true := fun k j e => by
              cases zz : mAl E8 k
              · rw [(iE8.2.2.1 k zz).2] at e; cases e
              · rfl
            refine lv_iconst (v := -1) hx hb dL_end_45 (by decide) ?_
            refine lv_istore (lv' := [(4, .int ((-1))), (2, .int (nI c8)), (3, .int (nI a)), (0, .int (nI k)), (1, .ref (g + 1))]) hx hb dL_end_46 hl (by decide) rfl (fun ls hl => ?_)
            refine lv_bipush (v := nI 9) hx hb dL_end_48 (by decide) ?_
            refine lv_istore (lv' := [(5, .int (nI 9)), (4, .int ((-1))), (2, .int (nI c8)), (3, .int (nI a)), (0, .int (nI k)), (1, .ref (g + 1))]) hx hb dL_end_50 hl (by decide) rfl (fun ls hl => ?_)
            have loop52 : ∀ (n : Nat) (u : Nat) (o9 : Option Nat), u < n → (u ≤ 10) → (chI (fun i => mAl E8 i && decide (mPar E8 i = some a)) u o9) → ∀ (ls : Array Slot), lv_has ls 6 [(5, .int (nI u + (-1))), (4, .int (nO o9)), (3, .int (nI a)), (2, .int (nI c8)), (0, .int (nI k)), (1, .ref (g + 1))] → W p l e (rmL 2 0 0) s m args below meth c H3 locs3 (0) (0) (vx_MQ below (QI (AS g) (fun r H1 => r = nI (ends E R k).2.2 ∧ ∃ Y1, SL T g Y1 H1 ∧ LTw Y1 (ends E R k).1 (ends E R k).2.1 ∧ ∀ j, j ≠ 1 → Y1 j = Y j)) (XX (AS g) (XN)) args s 0 0 (AS g)) (F0 m 52 ls []) := by
              intro n
              induction n with
              | zero => intro u o9 hfuel; exact absurd hfuel (Nat.not_lt_zero _)
              | succ n ih52 =>
                intro u o9 hfuel hu ho9 ls hl
                rcases u with _ | i
                · have hl : lv_has ls 6 [(5, .int (nI 0 + (-1))), (4, .int (nO o9)), (3, .int (nI a)), (2, .int (nI c8)), (0, .int (nI k)), (1, .ref (g + 1))] := hl
                  have hl : lv_has ls 6 [(5, .int ((-1))), (4, .int (nO o9)), (3, .int (nI a)), (2, .int (nI c8)), (0, .int (nI k)), (1, .ref (g + 1))] := by
                    have e9 : (nI 0 + (-1)) = ((-1)) := by decide
                    first
                      | (rw [← e9]; exact hl)
                      | (rw [e9] at hl; exact hl)
                  refine lv_iload hx hb dL_end_52 (lv_at hl 0 rfl) ?_
                  refine lv_if_lt (tgt := 96) hx hb dL_end_54 (by decide) (fun c54 => ?_) (fun c54 => ?_)
                  · rcases o9 with _ | c
                    · have hl : lv_has ls 6 [(5, .int ((-1))), (4, .int ((-1))), (3, .int (nI a)), (2, .int (nI c8)), (0, .int (nI k)), (1, .ref (g + 1))] := hl
                      refine lv_iload hx hb dL_end_96 (lv_at hl 1 rfl) ?_
                      refine lv_if_lt (tgt := 106) hx hb dL_end_98 (by decide) (fun c98 => ?_) (fun c98 => ?_)
                      · have hk0 := kids_first h10 hpal ho9
                        refine lv_iload_n hx hb dL_end_106 rfl (lv_at hl 2 rfl) ?_
                        refine lv_iload_n hx hb dL_end_107 rfl (lv_at hl 4 rfl) ?_
                        refine y_icmp_ne hx hb (by omega) (by omega) (tgt := 115) dL_end_108 (by decide) (fun c108 => ?_) (fun c108 => ?_)
                        · refine lv_aload_n hx hb dL_end_115 rfl (lv_at hl 5 rfl) ?_
                          refine lv_bipush (v := nI 6) hx hb dL_end_116 (by decide) ?_
                          refine lv_iload_n hx hb dL_end_118 rfl (lv_at hl 2 rfl) ?_
                          refine y_imul hx hb dL_end_119 ?_
                          refine lv_iconst (v := nI 3) hx hb dL_end_120 (by decide) ?_
                          refine y_iadd hx hb dL_end_121 ?_
                          refine n_ld1 (i := (6 * a) + 3) hx hb hK hL (by omega) dL_end_122 ?_
                          refine lv_istore_n (lv' := [(3, .int (Y8 1 ((6 * a) + 3))), (5, .int ((-1))), (4, .int ((-1))), (2, .int (nI c8)), (0, .int (nI k)), (1, .ref (g + 1))]) hx hb dL_end_123 rfl hl (by decide) rfl (fun ls hl => ?_)
                          refine lv_goto (tgt := 4) hx hb dL_end_124 (by decide) ?_
                          exact ih4 Y8 E8 R8 c8 (Y8 1 ((6 * a) + 3)) (flat E8 (a :: ch)) m8 fu H3 locs3 (by omega) hL hS hT8 iE8 iR8 iP8 hen8 hm8 hy8 (mid_up hch8 hfu8 hk0 c108) ls (lv_sub hl [0, 3, 4, 5] rfl)
                        · refine lv_iconst (v := -1) hx hb dL_end_111 (by decide) ?_
                          refine lv_goto (tgt := 123) hx hb dL_end_112 (by decide) ?_
                          refine lv_istore_n (lv' := [(3, .int ((-1))), (5, .int ((-1))), (4, .int ((-1))), (2, .int (nI c8)), (0, .int (nI k)), (1, .ref (g + 1))]) hx hb dL_end_123 rfl hl (by decide) rfl (fun ls hl => ?_)
                          refine lv_goto (tgt := 4) hx hb dL_end_124 (by decide) ?_
                          exact ih4 Y8 E8 R8 c8 ((-1)) (flat E8 (a :: ch)) m8 fu H3 locs3 (by omega) hL hS hT8 iE8 iR8 iP8 hen8 hm8 hy8 (mid_end hch8 hk0 c108) ls (lv_sub hl [0, 3, 4, 5] rfl)
                      · exact absurd (by decide) c98
                    · have hl : lv_has ls 6 [(5, .int ((-1))), (4, .int (nI c)), (3, .int (nI a)), (2, .int (nI c8)), (0, .int (nI k)), (1, .ref (g + 1))] := hl
                      have hc10 := ho9.2.1
                      refine lv_iload hx hb dL_end_96 (lv_at hl 1 rfl) ?_
                      refine y_if_lt hx hb (by omega) (tgt := 106) dL_end_98 (by decide) (fun c98 => ?_) (fun c98 => ?_)
                      · exact c98.elim
                      · obtain ⟨hcal, hkt⟩ := kids_first h10 hpal ho9
                        refine lv_iload hx hb dL_end_101 (lv_at hl 1 rfl) ?_
                        refine lv_goto (tgt := 123) hx hb dL_end_103 (by decide) ?_
                        refine lv_istore_n (lv' := [(3, .int (nI c)), (5, .int ((-1))), (4, .int (nI c)), (2, .int (nI c8)), (0, .int (nI k)), (1, .ref (g + 1))]) hx hb dL_end_123 rfl hl (by decide) rfl (fun ls hl => ?_)
                        refine lv_goto (tgt := 4) hx hb dL_end_124 (by decide) ?_
                        exact ih4 Y8 E8 R8 c8 (nI c) (flat E8 (a :: ch)) m8 fu H3 locs3 (by omega) hL hS hT8 iE8 iR8 iP8 hen8 hm8 hy8 (mid_child hch8 hfu8 hkt.choose_spec hcal) ls (lv_sub hl [0, 3, 4, 5] rfl)
                  · exact absurd (by decide) c54
                · have hl : lv_has ls 6 [(5, .int (nI (i + 1) + (-1))), (4, .int (nO o9)), (3, .int (nI a)), (2, .int (nI c8)), (0, .int (nI k)), (1, .ref (g + 1))] := hl
                  have hl : lv_has ls 6 [(5, .int (nI i)), (4, .int (nO o9)), (3, .int (nI a)), (2, .int (nI c8)), (0, .int (nI k)), (1, .ref (g + 1))] := by
                    have e9 : (nI (i + 1) + (-1)) = (nI i) := nI_dec i
                    first
                      | (rw [← e9]; exact hl)
                      | (rw [e9] at hl; exact hl)
                  refine lv_iload hx hb dL_end_52 (lv_at hl 0 rfl) ?_
                  refine y_if_lt hx hb (by omega) (tgt := 96) dL_end_54 (by decide) (fun c54 => ?_) (fun c54 => ?_)
                  · exact c54.elim
                  · refine lv_aload_n hx hb dL_end_57 rfl (lv_at hl 5 rfl) ?_
                    refine lv_bipush (v := nI 6) hx hb dL_end_58 (by decide) ?_
                    refine lv_iload hx hb dL_end_60 (lv_at hl 0 rfl) ?_
                    refine y_imul hx hb dL_end_62 ?_
                    refine n_ld1 (i := 6 * i) hx hb hK hL (by omega) dL_end_63 ?_
                    refine x_top (y := (bI (mAl E8 i))) (hT8.1.1 i (by omega)) ?_
                    refine lv_iconst (v := nI 1) hx hb dL_end_64 (by decide) ?_
                    refine lv_icmp_ne (tgt := 86) hx hb dL_end_65 (by decide) (fun c65 => ?_) (fun c65 => ?_)
                    · have hbb : (fun i => mAl E8 i && decide (mPar E8 i = some a)) i = false := by show (mAl E8 i && _) = false; rw [bI_n1 c65]; rfl
                      refine lv_iload hx hb dL_end_86 (lv_at hl 1 rfl) ?_
                      refine lv_istore (lv' := [(4, .int (nO o9)), (5, .int (nI i)), (3, .int (nI a)), (2, .int (nI c8)), (0, .int (nI k)), (1, .ref (g + 1))]) hx hb dL_end_88 hl (by decide) rfl (fun ls hl => ?_)
                      refine lv_iinc (v := ((nI i) + -1)) (lv' := [(5, .int ((nI i) + -1)), (4, .int (nO o9)), (3, .int (nI a)), (2, .int (nI c8)), (0, .int (nI k)), (1, .ref (g + 1))]) hx hb dL_end_90 hl (k := 1) rfl (rfl) (by decide) rfl (fun ls hl => ?_)
                      have hl : lv_has ls 6 [(5, .int (nI i + (-1))), (4, .int (nO o9)), (3, .int (nI a)), (2, .int (nI c8)), (0, .int (nI k)), (1, .ref (g + 1))] := by
                        have e9 : ((nI i) + -1) = (nI i + (-1)) := rfl
                        first
                          | (rw [← e9]; exact hl)
                          | (rw [e9] at hl; exact hl)
                      refine lv_goto (tgt := 52) hx hb dL_end_93 (by decide) ?_
                      exact ih52 i o9 (by omega) (by omega) (chI_f hbb ho9) ls (lv_sub hl [0, 1, 2, 3, 4, 5] rfl)
                    · have hal8 := bI_e1 c65
                      refine lv_aload_n hx hb dL_end_68 rfl (lv_at hl 5 rfl) ?_
                      refine lv_bipush (v := nI 6) hx hb dL_end_69 (by decide) ?_
                      refine lv_iload hx hb dL_end_71 (lv_at hl 0 rfl) ?_
                      refine y_imul hx hb dL_end_73 ?_
                      refine lv_iconst (v := nI 3) hx hb dL_end_74 (by decide) ?_
                      refine y_iadd hx hb dL_end_75 ?_
                      refine n_ld1 (i := (6 * i) + 3) hx hb hK hL (by omega) dL_end_76 ?_
                      refine x_top (y := (nO (mPar E8 i))) (hT8.1.2.2.2.1 i (by omega) hal8) ?_
                      refine lv_iload_n hx hb dL_end_77 rfl (lv_at hl 2 rfl) ?_
                      refine lv_icmp_ne (tgt := 86) hx hb dL_end_78 (by decide) (fun c78 => ?_) (fun c78 => ?_)
                      · have hbb : (fun i => mAl E8 i && decide (mPar E8 i = some a)) i = false := by show (mAl E8 i && decide _) = false; rw [decide_eq_false (fun e => c78 (by rw [e]; rfl)), Bool.and_false]
                        refine lv_iload hx hb dL_end_86 (lv_at hl 1 rfl) ?_
                        refine lv_istore (lv' := [(4, .int (nO o9)), (5, .int (nI i)), (3, .int (nI a)), (2, .int (nI c8)), (0, .int (nI k)), (1, .ref (g + 1))]) hx hb dL_end_88 hl (by decide) rfl (fun ls hl => ?_)
                        refine lv_iinc (v := ((nI i) + -1)) (lv' := [(5, .int ((nI i) + -1)), (4, .int (nO o9)), (3, .int (nI a)), (2, .int (nI c8)), (0, .int (nI k)), (1, .ref (g + 1))]) hx hb dL_end_90 hl (k := 1) rfl (rfl) (by decide) rfl (fun ls hl => ?_)
                        have hl : lv_has ls 6 [(5, .int (nI i + (-1))), (4, .int (nO o9)), (3, .int (nI a)), (2, .int (nI c8)), (0, .int (nI k)), (1, .ref (g + 1))] := by
                          have e9 : ((nI i) + -1) = (nI i + (-1)) := rfl
                          first
                            | (rw [← e9]; exact hl)
                            | (rw [e9] at hl; exact hl)
                        refine lv_goto (tgt := 52) hx hb dL_end_93 (by decide) ?_
                        exact ih52 i o9 (by omega) (by omega) (chI_f hbb ho9) ls (lv_sub hl [0, 1, 2, 3, 4, 5] rfl)
                      · have hpa := nO_eq (by omega) (fun q hq => by obtain ⟨dp, hdp⟩ := iE8.2.2.2; have := (hdp i q hq).2; omega) c78
                        have hbb : (fun i => mAl E8 i && decide (mPar E8 i = some a)) i = true := by show (mAl E8 i && decide _) = true; rw [hal8, decide_eq_true hpa]; rfl
                        refine lv_iload hx hb dL_end_81 (lv_at hl 0 rfl) ?_
                        refine lv_goto (tgt := 88) hx hb dL_end_83 (by decide) ?_
                        refine lv_istore (lv' := [(4, .int (nO (some i))), (5, .int (nI i)), (3, .int (nI a)), (2, .int (nI c8)), (0, .int (nI k)), (1, .ref (g + 1))]) hx hb dL_end_88 hl (by decide) rfl (fun ls hl => ?_)
                        refine lv_iinc (v := ((nI i) + -1)) (lv' := [(5, .int ((nI i) + -1)), (4, .int (nO (some i))), (3, .int (nI a)), (2, .int (nI c8)), (0, .int (nI k)), (1, .ref (g + 1))]) hx hb dL_end_90 hl (k := 1) rfl (rfl) (by decide) rfl (fun ls hl => ?_)
                        have hl : lv_has ls 6 [(5, .int (nI i + (-1))), (4, .int (nO (some i))), (3, .int (nI a)), (2, .int (nI c8)), (0, .int (nI k)), (1, .ref (g + 1))] := by
                          have e9 : ((nI i) + -1) = (nI i + (-1)) := rfl
                          first
                            | (rw [← e9]; exact hl)
                            | (rw [e9] at hl; exact hl)
                        refine lv_goto (tgt := 52) hx hb dL_end_93 (by decide) ?_
                        exact ih52 i (some i) (by omega) (by omega) (chI_t (o := o9) (by omega) hbb) ls (lv_sub hl [0, 1, 2, 3, 4, 5] rfl)
            exact loop52 (10 + 1) 10 none (Nat.lt_succ_self _) (Nat.le_refl _) (fun j h1 h2 => absurd h2 (Nat.not_lt.mpr h1)) ls (lv_sub hl [0, 1, 3, 2, 4, 5] rfl)
      · have hl : lv_has ls 6 [(3, .int (nI a)), (2, .int (nI c9)), (0, .int (nI k)), (1, .ref (g + 1))] := hl
        have ha10 := (hA.2.1 a List.mem_cons_self).2
        have had := (hA.2.1 a List.mem_cons_self).1
        obtain ⟨fu, rfl⟩ : ∃ q, fu = q + 1 := ⟨fu - 1, by omega⟩
        refine lv_iload_n hx hb dL_end_4 rfl (lv_at hl 0 rfl) ?_
        refine y_if_lt hx hb (by omega) (tgt := 127) dL_end_5 (by decide) (fun c5 => ?_) (fun c5 => ?_)
        · exact c5.elim
        · refine lv_aload_n hx hb dL_end_8 rfl (lv_at hl 3 rfl) ?_
          refine lv_bipush (v := nI 6) hx hb dL_end_9 (by decide) ?_
          refine lv_iload_n hx hb dL_end_11 rfl (lv_at hl 0 rfl) ?_
          refine y_imul hx hb dL_end_12 ?_
          refine n_ld1 (i := 6 * a) hx hb hK hL (by omega) dL_end_13 ?_
          refine x_top (y := (nI 0)) (by rw [hT9.1.1 a ha10, had]; rfl) ?_
          refine lv_iconst (v := nI 1) hx hb dL_end_14 (by decide) ?_
          refine y_icmp_ne hx hb (by decide) (by decide) (tgt := 45) dL_end_15 (by decide) (fun c15 => ?_) (fun c15 => ?_)
          · obtain ⟨E8, R8, Y8, c8, m8, hc8, hL, hT8, iE8, iR8, iP8, hen8, hm8, hy8, hch8, hfu8⟩ : ∃ (E8 : mE) (R8 : mR) (Y8 : Nat → Nat → Int32) (c8 m8 : Nat), nI c9 = nI c8 ∧ SL T g Y8 H9 ∧ LTw Y8 E8 R8 ∧ InvE0 E8 ∧ InvR E8 R8 ∧ InvP E8 (flat E8 (a :: ch)) ∧ endsL m8 (flat E8 (a :: ch)) E8 R8 c8 = ends E R k ∧ cnt (mAl E8) 32 < m8 ∧ (∀ j, j ≠ 1 → Y8 j = Y j) ∧ Chn (Y8 1) E8 k (a :: ch) ∧ 2 * cnt (mAl E8) 32 + ch.length + 3 ≤ fu + 1 := ⟨E9, R9, Y9, c9, m9, rfl, hL, hT9, iE9, iR9, iP9, he9, hm9, hy9, hA, hfu⟩
            have hl : lv_has ls 6 [(3, .int (nI a)), (2, .int (nI c8)), (0, .int (nI k)), (1, .ref (g + 1))] := by
              have e9 : (nI c9) = (nI c8) := hc8
              first
                | (rw [← e9]; exact hl)
                | (rw [e9] at hl; exact hl)
            have h10 := hT8.1.2.2.2.2.1
            have hpal : ∀ k j, mPar E8 k = some j → mAl E8 k = true := fun k j e => by
              cases zz : mAl E8 k
              · rw [(iE8.2.2.1 k zz).2] at e; cases e
              · rfl
            refine lv_iconst (v := -1) hx hb dL_end_45 (by decide) ?_
            refine lv_istore (lv' := [(4, .int ((-1))), (3, .int (nI a)), (2, .int (nI c8)), (0, .int (nI k)), (1, .ref (g + 1))]) hx hb dL_end_46 hl (by decide) rfl (fun ls hl => ?_)
            refine lv_bipush (v := nI 9) hx hb dL_end_48 (by decide) ?_
            refine lv_istore (lv' := [(5, .int (nI 9)), (4, .int ((-1))), (3, .int (nI a)), (2, .int (nI c8)), (0, .int (nI k)), (1, .ref (g + 1))]) hx hb dL_end_50 hl (by decide) rfl (fun ls hl => ?_)
            have loop52 : ∀ (n : Nat) (u : Nat) (o9 : Option Nat), u < n → (u ≤ 10) → (chI (fun i => mAl E8 i && decide (mPar E8 i = some a)) u o9) → ∀ (ls : Array Slot), lv_has ls 6 [(5, .int (nI u + (-1))), (4, .int (nO o9)), (3, .int (nI a)), (2, .int (nI c8)), (0, .int (nI k)), (1, .ref (g + 1))] → W p l e (rmL 2 0 0) s m args below meth c H9 locs9 (0) (0) (vx_MQ below (QI (AS g) (fun r H1 => r = nI (ends E R k).2.2 ∧ ∃ Y1, SL T g Y1 H1 ∧ LTw Y1 (ends E R k).1 (ends E R k).2.1 ∧ ∀ j, j ≠ 1 → Y1 j = Y j)) (XX (AS g) (XN)) args s 0 0 (AS g)) (F0 m 52 ls []) := by
              intro n
              induction n with
              | zero => intro u o9 hfuel; exact absurd hfuel (Nat.not_lt_zero _)
              | succ n ih52 =>
                intro u o9 hfuel hu ho9 ls hl
                rcases u with _ | i
                · have hl : lv_has ls 6 [(5, .int (nI 0 + (-1))), (4, .int (nO o9)), (3, .int (nI a)), (2, .int (nI c8)), (0, .int (nI k)), (1, .ref (g + 1))] := hl
                  have hl : lv_has ls 6 [(5, .int ((-1))), (4, .int (nO o9)), (3, .int (nI a)), (2, .int (nI c8)), (0, .int (nI k)), (1, .ref (g + 1))] := by
                    have e9 : (nI 0 + (-1)) = ((-1)) := by decide
                    first
                      | (rw [← e9]; exact hl)
                      | (rw [e9] at hl; exact hl)
                  refine lv_iload hx hb dL_end_52 (lv_at hl 0 rfl) ?_
                  refine lv_if_lt (tgt := 96) hx hb dL_end_54 (by decide) (fun c54 => ?_) (fun c54 => ?_)
                  · rcases o9 with _ | c
                    · have hl : lv_has ls 6 [(5, .int ((-1))), (4, .int ((-1))), (3, .int (nI a)), (2, .int (nI c8)), (0, .int (nI k)), (1, .ref (g + 1))] := hl
                      refine lv_iload hx hb dL_end_96 (lv_at hl 1 rfl) ?_
                      refine lv_if_lt (tgt := 106) hx hb dL_end_98 (by decide) (fun c98 => ?_) (fun c98 => ?_)
                      · have hk0 := kids_first h10 hpal ho9
                        refine lv_iload_n hx hb dL_end_106 rfl (lv_at hl 2 rfl) ?_
                        refine lv_iload_n hx hb dL_end_107 rfl (lv_at hl 4 rfl) ?_
                        refine y_icmp_ne hx hb (by omega) (by omega) (tgt := 115) dL_end_108 (by decide) (fun c108 => ?_) (fun c108 => ?_)
                        · refine lv_aload_n hx hb dL_end_115 rfl (lv_at hl 5 rfl) ?_
                          refine lv_bipush (v := nI 6) hx hb dL_end_116 (by decide) ?_
                          refine lv_iload_n hx hb dL_end_118 rfl (lv_at hl 2 rfl) ?_
                          refine y_imul hx hb dL_end_119 ?_
                          refine lv_iconst (v := nI 3) hx hb dL_end_120 (by decide) ?_
                          refine y_iadd hx hb dL_end_121 ?_
                          refine n_ld1 (i := (6 * a) + 3) hx hb hK hL (by omega) dL_end_122 ?_
                          refine lv_istore_n (lv' := [(3, .int (Y8 1 ((6 * a) + 3))), (5, .int ((-1))), (4, .int ((-1))), (2, .int (nI c8)), (0, .int (nI k)), (1, .ref (g + 1))]) hx hb dL_end_123 rfl hl (by decide) rfl (fun ls hl => ?_)
                          refine lv_goto (tgt := 4) hx hb dL_end_124 (by decide) ?_
                          exact ih4 Y8 E8 R8 c8 (Y8 1 ((6 * a) + 3)) (flat E8 (a :: ch)) m8 fu H9 locs9 (by omega) hL hS hT8 iE8 iR8 iP8 hen8 hm8 hy8 (mid_up hch8 hfu8 hk0 c108) ls (lv_sub hl [0, 3, 4, 5] rfl)
                        · refine lv_iconst (v := -1) hx hb dL_end_111 (by decide) ?_
                          refine lv_goto (tgt := 123) hx hb dL_end_112 (by decide) ?_
                          refine lv_istore_n (lv' := [(3, .int ((-1))), (5, .int ((-1))), (4, .int ((-1))), (2, .int (nI c8)), (0, .int (nI k)), (1, .ref (g + 1))]) hx hb dL_end_123 rfl hl (by decide) rfl (fun ls hl => ?_)
                          refine lv_goto (tgt := 4) hx hb dL_end_124 (by decide) ?_
                          exact ih4 Y8 E8 R8 c8 ((-1)) (flat E8 (a :: ch)) m8 fu H9 locs9 (by omega) hL hS hT8 iE8 iR8 iP8 hen8 hm8 hy8 (mid_end hch8 hk0 c108) ls (lv_sub hl [0, 3, 4, 5] rfl)
                      · exact absurd (by decide) c98
                    · have hl : lv_has ls 6 [(5, .int ((-1))), (4, .int (nI c)), (3, .int (nI a)), (2, .int (nI c8)), (0, .int (nI k)), (1, .ref (g + 1))] := hl
                      have hc10 := ho9.2.1
                      refine lv_iload hx hb dL_end_96 (lv_at hl 1 rfl) ?_
                      refine y_if_lt hx hb (by omega) (tgt := 106) dL_end_98 (by decide) (fun c98 => ?_) (fun c98 => ?_)
                      · exact c98.elim
                      · obtain ⟨hcal, hkt⟩ := kids_first h10 hpal ho9
                        refine lv_iload hx hb dL_end_101 (lv_at hl 1 rfl) ?_
                        refine lv_goto (tgt := 123) hx hb dL_end_103 (by decide) ?_
                        refine lv_istore_n (lv' := [(3, .int (nI c)), (5, .int ((-1))), (4, .int (nI c)), (2, .int (nI c8)), (0, .int (nI k)), (1, .ref (g + 1))]) hx hb dL_end_123 rfl hl (by decide) rfl (fun ls hl => ?_)
                        refine lv_goto (tgt := 4) hx hb dL_end_124 (by decide) ?_
                        exact ih4 Y8 E8 R8 c8 (nI c) (flat E8 (a :: ch)) m8 fu H9 locs9 (by omega) hL hS hT8 iE8 iR8 iP8 hen8 hm8 hy8 (mid_child hch8 hfu8 hkt.choose_spec hcal) ls (lv_sub hl [0, 3, 4, 5] rfl)
                  · exact absurd (by decide) c54
                · have hl : lv_has ls 6 [(5, .int (nI (i + 1) + (-1))), (4, .int (nO o9)), (3, .int (nI a)), (2, .int (nI c8)), (0, .int (nI k)), (1, .ref (g + 1))] := hl
                  have hl : lv_has ls 6 [(5, .int (nI i)), (4, .int (nO o9)), (3, .int (nI a)), (2, .int (nI c8)), (0, .int (nI k)), (1, .ref (g + 1))] := by
                    have e9 : (nI (i + 1) + (-1)) = (nI i) := nI_dec i
                    first
                      | (rw [← e9]; exact hl)
                      | (rw [e9] at hl; exact hl)
                  refine lv_iload hx hb dL_end_52 (lv_at hl 0 rfl) ?_
                  refine y_if_lt hx hb (by omega) (tgt := 96) dL_end_54 (by decide) (fun c54 => ?_) (fun c54 => ?_)
                  · exact c54.elim
                  · refine lv_aload_n hx hb dL_end_57 rfl (lv_at hl 5 rfl) ?_
                    refine lv_bipush (v := nI 6) hx hb dL_end_58 (by decide) ?_
                    refine lv_iload hx hb dL_end_60 (lv_at hl 0 rfl) ?_
                    refine y_imul hx hb dL_end_62 ?_
                    refine n_ld1 (i := 6 * i) hx hb hK hL (by omega) dL_end_63 ?_
                    refine x_top (y := (bI (mAl E8 i))) (hT8.1.1 i (by omega)) ?_
                    refine lv_iconst (v := nI 1) hx hb dL_end_64 (by decide) ?_
                    refine lv_icmp_ne (tgt := 86) hx hb dL_end_65 (by decide) (fun c65 => ?_) (fun c65 => ?_)
                    · have hbb : (fun i => mAl E8 i && decide (mPar E8 i = some a)) i = false := by show (mAl E8 i && _) = false; rw [bI_n1 c65]; rfl
                      refine lv_iload hx hb dL_end_86 (lv_at hl 1 rfl) ?_
                      refine lv_istore (lv' := [(4, .int (nO o9)), (5, .int (nI i)), (3, .int (nI a)), (2, .int (nI c8)), (0, .int (nI k)), (1, .ref (g + 1))]) hx hb dL_end_88 hl (by decide) rfl (fun ls hl => ?_)
                      refine lv_iinc (v := ((nI i) + -1)) (lv' := [(5, .int ((nI i) + -1)), (4, .int (nO o9)), (3, .int (nI a)), (2, .int (nI c8)), (0, .int (nI k)), (1, .ref (g + 1))]) hx hb dL_end_90 hl (k := 1) rfl (rfl) (by decide) rfl (fun ls hl => ?_)
                      have hl : lv_has ls 6 [(5, .int (nI i + (-1))), (4, .int (nO o9)), (3, .int (nI a)), (2, .int (nI c8)), (0, .int (nI k)), (1, .ref (g + 1))] := by
                        have e9 : ((nI i) + -1) = (nI i + (-1)) := rfl
                        first
                          | (rw [← e9]; exact hl)
                          | (rw [e9] at hl; exact hl)
                      refine lv_goto (tgt := 52) hx hb dL_end_93 (by decide) ?_
                      exact ih52 i o9 (by omega) (by omega) (chI_f hbb ho9) ls (lv_sub hl [0, 1, 2, 3, 4, 5] rfl)
                    · have hal8 := bI_e1 c65
                      refine lv_aload_n hx hb dL_end_68 rfl (lv_at hl 5 rfl) ?_
                      refine lv_bipush (v := nI 6) hx hb dL_end_69 (by decide) ?_
                      refine lv_iload hx hb dL_end_71 (lv_at hl 0 rfl) ?_
                      refine y_imul hx hb dL_end_73 ?_
                      refine lv_iconst (v := nI 3) hx hb dL_end_74 (by decide) ?_
                      refine y_iadd hx hb dL_end_75 ?_
                      refine n_ld1 (i := (6 * i) + 3) hx hb hK hL (by omega) dL_end_76 ?_
                      refine x_top (y := (nO (mPar E8 i))) (hT8.1.2.2.2.1 i (by omega) hal8) ?_
                      refine lv_iload_n hx hb dL_end_77 rfl (lv_at hl 2 rfl) ?_
                      refine lv_icmp_ne (tgt := 86) hx hb dL_end_78 (by decide) (fun c78 => ?_) (fun c78 => ?_)
                      · have hbb : (fun i => mAl E8 i && decide (mPar E8 i = some a)) i = false := by show (mAl E8 i && decide _) = false; rw [decide_eq_false (fun e => c78 (by rw [e]; rfl)), Bool.and_false]
                        refine lv_iload hx hb dL_end_86 (lv_at hl 1 rfl) ?_
                        refine lv_istore (lv' := [(4, .int (nO o9)), (5, .int (nI i)), (3, .int (nI a)), (2, .int (nI c8)), (0, .int (nI k)), (1, .ref (g + 1))]) hx hb dL_end_88 hl (by decide) rfl (fun ls hl => ?_)
                        refine lv_iinc (v := ((nI i) + -1)) (lv' := [(5, .int ((nI i) + -1)), (4, .int (nO o9)), (3, .int (nI a)), (2, .int (nI c8)), (0, .int (nI k)), (1, .ref (g + 1))]) hx hb dL_end_90 hl (k := 1) rfl (rfl) (by decide) rfl (fun ls hl => ?_)
                        have hl : lv_has ls 6 [(5, .int (nI i + (-1))), (4, .int (nO o9)), (3, .int (nI a)), (2, .int (nI c8)), (0, .int (nI k)), (1, .ref (g + 1))] := by
                          have e9 : ((nI i) + -1) = (nI i + (-1)) := rfl
                          first
                            | (rw [← e9]; exact hl)
                            | (rw [e9] at hl; exact hl)
                        refine lv_goto (tgt := 52) hx hb dL_end_93 (by decide) ?_
                        exact ih52 i o9 (by omega) (by omega) (chI_f hbb ho9) ls (lv_sub hl [0, 1, 2, 3, 4, 5] rfl)
                      · have hpa := nO_eq (by omega) (fun q hq => by obtain ⟨dp, hdp⟩ := iE8.2.2.2; have := (hdp i q hq).2; omega) c78
                        have hbb : (fun i => mAl E8 i && decide (mPar E8 i = some a)) i = true := by show (mAl E8 i && decide _) = true; rw [hal8, decide_eq_true hpa]; rfl
                        refine lv_iload hx hb dL_end_81 (lv_at hl 0 rfl) ?_
                        refine lv_goto (tgt := 88) hx hb dL_end_83 (by decide) ?_
                        refine lv_istore (lv' := [(4, .int (nO (some i))), (5, .int (nI i)), (3, .int (nI a)), (2, .int (nI c8)), (0, .int (nI k)), (1, .ref (g + 1))]) hx hb dL_end_88 hl (by decide) rfl (fun ls hl => ?_)
                        refine lv_iinc (v := ((nI i) + -1)) (lv' := [(5, .int ((nI i) + -1)), (4, .int (nO (some i))), (3, .int (nI a)), (2, .int (nI c8)), (0, .int (nI k)), (1, .ref (g + 1))]) hx hb dL_end_90 hl (k := 1) rfl (rfl) (by decide) rfl (fun ls hl => ?_)
                        have hl : lv_has ls 6 [(5, .int (nI i + (-1))), (4, .int (nO (some i))), (3, .int (nI a)), (2, .int (nI c8)), (0, .int (nI k)), (1, .ref (g + 1))] := by
                          have e9 : ((nI i) + -1) = (nI i + (-1)) := rfl
                          first
                            | (rw [← e9]; exact hl)
                            | (rw [e9] at hl; exact hl)
                        refine lv_goto (tgt := 52) hx hb dL_end_93 (by decide) ?_
                        exact ih52 i (some i) (by omega) (by omega) (chI_t (o := o9) (by omega) hbb) ls (lv_sub hl [0, 1, 2, 3, 4, 5] rfl)
            exact loop52 (10 + 1) 10 none (Nat.lt_succ_self _) (Nat.le_refl _) (fun j h1 h2 => absurd h2 (Nat.not_lt.mpr h1)) ls (lv_sub hl [0, 1, 2, 3, 4, 5] rfl)
          · exact absurd c15 (by decide)
      · have hl : lv_has ls 6 [(3, .int ((-1))), (2, .int (nI c9)), (0, .int (nI k)), (1, .ref (g + 1))] := hl
        refine lv_iload_n hx hb dL_end_4 rfl (lv_at hl 0 rfl) ?_
        refine lv_if_lt (tgt := 127) hx hb dL_end_5 (by decide) (fun c5 => ?_) (fun c5 => ?_)
        · refine lv_iload_n hx hb dL_end_127 rfl (lv_at hl 1 rfl) ?_
          exact r_i hx hb hrt9 hlk hS (Nat.le_of_ble_eq_true rfl) (Nat.le_of_ble_eq_true rfl) dL_end_128 (by rw [endsL_nil] at he9; exact ⟨by rw [← he9], Y9, hL, by rw [← he9]; exact hT9, hy9⟩)
        · exact absurd (by decide) c5
  exact loop4 ((2 * cnt (mAl E) 32 + 1) + 1) Y E R 0 (nI k) [k] 40 (2 * cnt (mAl E) 32 + 1) H [] (Nat.lt_succ_self _) hL hS hT iE.to0 iR (InvP.one iE hal) rfl (by have := cnt_le (mAl E) 32; omega) (fun j _ => rfl) (Or.inl ⟨k, [], [], rfl, rfl, ⟨hal, ⟨List.nodup_nil, fun q hq => (List.not_mem_nil hq).elim, trivial⟩, Or.inl ⟨rfl, rfl, rfl⟩⟩, by show _ + 0 + 1 ≤ _; omega⟩) ls (lv_sub hl [0, 1, 2, 3] rfl)

theorem PE.kp {D : va_G} {T : Nat → ClassId} {b : Nat} {H H1 : Heap} {E : mE} (h : PE D T b H E) (hk : KP H H1) : PE D T b H1 E := by
  refine h.kept (fun q h1 h2 => hk.2 q ?_)
  obtain ⟨k, x, hk32, hx, rfl⟩ : ∃ k x, k < 32 ∧ x < 3 ∧ q = ea b k + x := ⟨(q - b - 5) / 3, (q - b - 5) % 3, by omega, Nat.mod_lt _ (by decide), by unfold ea; omega⟩
  obtain ⟨a1, fv, fm, a2, a3, -⟩ := h k hk32
  have b1 := a1.lt
  have b2 := a2.lt
  have b3 := a3.lt
  rcases (by omega : x = 0 ∨ x = 1 ∨ x = 2) with rfl | rfl | rfl
  · exact b1
  · exact b2
  · exact b3
theorem fam_ins {D : va_G} {T : Nat → ClassId} {dE a arr cap b i v : Nat} {q r : List Nat} {H : Heap} (hL : AL D T dE H a arr cap ((q ++ r).length + 1) (insF (fun j => ea b (gL (q ++ r) j)) i (ea b v))) (hi : q.length = i) : AL D T dE H a arr cap (q ++ v :: r).length (fun j => ea b (gL (q ++ v :: r) j)) := by
  subst hi
  have e : (q ++ v :: r).length = (q ++ r).length + 1 := by rw [List.length_append, List.length_append, List.length_cons]; omega
  rw [e]
  exact hL.cong (fun j hj => ins_list b v q r j (by rw [e]; exact hj))
theorem nArr_ge {H : Heap} {arr cap n s : Nat} (h : 0 < cap → s ≤ arr) (hz : s ≤ H.size) : s ≤ nArr H arr cap n := by
  unfold nArr; split
  · exact h (by omega)
  · exact hz
set_option maxRecDepth 100000 in
theorem in_X6_familyOf_RJx4a65c : ∀ w ∈ wsJx4a65c0, w ∈ wsX6_familyOf := by decide +kernel
set_option maxRecDepth 100000 in
theorem in_X6_familyOf_RX1 : ∀ w ∈ wsX10, w ∈ wsX6_familyOf := by decide +kernel
set_option maxRecDepth 100000 in
theorem in_X6_familyOf_RX6 : ∀ w ∈ wsX60, w ∈ wsX6_familyOf := by decide +kernel
set_option maxHeartbeats 4000000 in
set_option maxRecDepth 100000 in
theorem c_X6_familyOf (l : Launch) {D : va_G} {T : Nat → ClassId} {dE mi : Nat} (hst : l.stackTraces = false) {A : Nat → Prop} {H : Heap} {b0 : Nat} {wo : Option Nat} {tk : Int32} (hX : PX D T b0 H wo tk) {E : mE} (hE : PE D T b0 H E) (hAn : ∀ q : Nat, H.size ≤ q → A q) (hAe : ∀ k, k < 32 → A (ea b0 k)) {sl : Nat} (hs32 : sl < 32) (hfl : (famL E sl).length ≤ 32) (hfm : ∀ x ∈ famL E sl, x < 32) : vx_Met l yX6_familyOf wsX6_familyOf (rmL 8 5 83) (PcE D T dE mi A H [.ref b0, .ref ((ea b0 sl))]) (QQ A (fun r H1 => r = some H.size ∧ ∃ arr cap, AL D T dE H1 H.size arr cap (famL E sl).length (fun j => ea b0 (gL (famL E sl) j)) ∧ okF cap ∧ (0 < cap → H.size ≤ arr) ∧ KP H H1)) (XX A (XN)) 5 83 A := by
  refine entry (cc := cX6_familyOf) (maxL := 6) (ret := (some (.object "java/util/ArrayList"))) (by decide) rfl (Nat.le_of_ble_eq_true rfl) ?_
  intro p e s m args below meth c hx hb hrt9 hml hown hts hlk hnt hnm hev hS ls hl
  have hown : s.vm.findClass RX6 = some m.cls := hown
  have hK := hev.1
  have hl : lv_has ls 6 [(0, .ref b0), (1, .ref ((ea b0 sl)))] := hl
  refine x_new (C := RJx4a65c) (TT := TJx4a65c) (N := 3) (ci := 2) (fs := [.int 0, .null, .int 0]) hx hb hts in_X6_familyOf_RJx4a65c tyJx4a65c tyJx4a65c_ok hown (hts (.classLink RX6 15 RJx4a65c) (by decide +kernel)) (hts (.instantiable RJx4a65c 3) (by decide +kernel)) (hts (.initialized RJx4a65c) (by decide +kernel)) hK hS rfl (by decide) (Nat.le_of_ble_eq_true rfl) (Nat.le_of_ble_eq_true rfl) dX6_familyOf_0 (fun H1 ho1 hz1 hq1 hS => ?_)
  have k1 : KP H H1 := ⟨by omega, hq1⟩
  refine lv_dup hx hb dX6_familyOf_3 rfl ?_
  refine k_vp (k_I (As := []) (rest := [.ref H.size]) ⟨hx, hb, hml, hown, hts⟩ hev hS (c_Jx4a65c_init_da8c8 l ho1 (hAn _ (Nat.le_refl _))) (cwI 0 hts gX6_familyOf_Jx4a65c_init_da8c8 rfl rfl rfl (hts (.initialized RJx4a65c) (by decide +kernel)) (hts (.methodLink RX6 17 yJx4a65c_init_da8c8) (by decide +kernel)) (hts (.instanceMethod yJx4a65c_init_da8c8) (by decide +kernel)) rfl (by decide +kernel) ⟨Nat.le_of_ble_eq_true rfl, Nat.le_of_ble_eq_true rfl⟩) rfl hl.1 (Nat.le_of_ble_eq_true rfl) dX6_familyOf_4 (Nat.le_of_ble_eq_true rfl) (Nat.le_of_ble_eq_true rfl)) hS hnt hlk (fun _ _ h _ => h.elim) (Nat.le_of_ble_eq_true rfl) (Nat.le_of_ble_eq_true rfl) (fun H2 locs2 hP hz2 hS => ?_)
  refine W.widen (k := 0 + 1) (n := 0 + 3) (Nat.le_refl _) (Nat.le_refl _) ?_
  obtain ⟨hl9, ez9, eq9⟩ := hP
  obtain ⟨d1, d2, d3⟩ := hev.dE hS
  have k2 : KP H H2 := ⟨by omega, fun q9 h9 => (eq9 q9 (by omega)).trans (hq1 q9 h9)⟩
  have hL0 := AL.new (T := T) (fun j => ea b0 (gL [] j)) hl9 d1 (fun z => d3 (by rw [z]; exact hAn _ (Nat.le_refl _)))
  have hE2 := hE.kp k2
  refine lv_astore_n (lv' := [(2, .ref H.size), (0, .ref b0), (1, .ref ((ea b0 sl)))]) hx hb dX6_familyOf_7 rfl hl (by decide) rfl (fun ls hl => ?_)
  refine lv_aload_n hx hb dX6_familyOf_8 rfl (lv_at hl 0 rfl) ?_
  refine lv_aload_n hx hb dX6_familyOf_9 rfl (lv_at hl 2 rfl) ?_
  refine k_ip (k_V (As := [.ref ((ea b0 sl))]) (rest := []) ⟨hx, hb, hml, hown, hts⟩ hev hS (c_addL l hL0 (by decide) (hAn _ (Nat.le_refl _)) (fun h0 => absurd h0 (Nat.lt_irrefl 0)) (fun q9 h9 => hAn q9 (Nat.le_trans k2.1 h9)) (ci := 4) (rr := (RX1, TX1, 6)) (fun x hx2 => absurd hx2 (Nat.not_lt_zero x)) rfl (by decide +kernel) (hE2 sl hs32).1 (Nat.ne_of_lt (hE sl hs32).1.lt)) (cwV 1 hts gX6_familyOf_Jx4a65c_add_9ea2d rfl rfl rfl (by decide +kernel) ⟨Nat.le_of_ble_eq_true rfl, Nat.le_of_ble_eq_true rfl⟩) (x_recv hK ((hL0.rec).choose_spec) rfl) rfl hl.1 (Nat.le_of_ble_eq_true rfl) dX6_familyOf_10 (Nat.le_of_ble_eq_true rfl) (Nat.le_of_ble_eq_true rfl)) hS hnt hlk (fun _ _ h _ => h.elim) (Nat.le_of_ble_eq_true rfl) (Nat.le_of_ble_eq_true rfl) (fun rq3_ H3 locs3 hP hz3 hS => ?_)
  obtain ⟨-, hL1, hz1, hq1⟩ := hP
  have hFL0 : AL D T dE H3 H.size (nArr H2 dE 0 0) (nCap 0 0) ([] ++ [sl]).length (fun j => ea b0 (gL ([] ++ [sl]) j)) := hL1.cong (fun j hj => by obtain rfl : j = 0 := Nat.lt_one_iff.mp hj; rfl)
  have hkp0 : KP H H3 := ⟨by have := k2.1; omega, fun q9 h9 => (hq1 q9 (by have := k2.1; omega) (by omega) (fun h0 => absurd h0 (Nat.lt_irrefl 0))).trans (k2.2 q9 h9)⟩
  refine lv_pop hx hb dX6_familyOf_13 rfl ?_
  refine W.widen (k := 1 + gC (nCap 0 0)) (n := 3 + gS (nCap 0 0)) (by decide) (by decide) ?_
  refine lv_iconst (v := nI 0) hx hb dX6_familyOf_14 (by decide) ?_
  refine lv_istore_n (lv' := [(3, .int (nI 0)), (2, .ref H.size), (0, .ref b0), (1, .ref ((ea b0 sl)))]) hx hb dX6_familyOf_15 rfl hl (by decide) rfl (fun ls hl => ?_)
  have loop16 : ∀ (n : Nat) (i : Nat) (A9 st9 : List Nat) (arr cap : Nat) (H9 : Heap) (locs9 : List Loc), 32 - i < n → (i ≤ 32) → (A9.length = i) → (famL E sl = A9 ++ preL E (32 - i) st9) → (AL D T dE H9 H.size arr cap (A9 ++ st9).length (fun j => ea b0 (gL (A9 ++ st9) j))) → (okF cap) → (0 < cap → H.size ≤ arr) → (KP H H9) → (va_S A s.heap H9 locs9) → ∀ (ls : Array Slot), lv_has ls 6 [(3, .int (nI i)), (2, .ref H.size), (0, .ref b0), (1, .ref ((ea b0 sl)))] → W p l e (rmL 8 5 83) s m args below meth c H9 locs9 (1 + gC cap) (3 + gS cap) (vx_MQ below (QQ A (fun r H1 => r = some H.size ∧ ∃ arr cap, AL D T dE H1 H.size arr cap (famL E sl).length (fun j => ea b0 (gL (famL E sl) j)) ∧ okF cap ∧ (0 < cap → H.size ≤ arr) ∧ KP H H1)) (XX A (XN)) args s 5 83 A) (F0 m 16 ls []) := by
    intro n
    induction n with
    | zero => intro i A9 st9 arr cap H9 locs9 hfuel; exact absurd hfuel (Nat.not_lt_zero _)
    | succ n ih16 =>
      intro i A9 st9 arr cap H9 locs9 hfuel hi hlen hpre hFL hok har hkp hS ls hl
      have hpr := pre_sub E (32 - i) st9
      have hsub : (A9 ++ st9).Sublist (famL E sl) := by rw [hpre]; exact (List.Sublist.refl A9).append hpr
      have hsz := Nat.le_trans hsub.length_le hfl
      have hE9 := hE.kp hkp
      have hg9 := g_le hok
      refine lv_iload_n hx hb dX6_familyOf_16 rfl (lv_at hl 0 rfl) ?_
      refine lv_bipush (v := nI 32) hx hb dX6_familyOf_17 (by decide) ?_
      refine y_icmp_ge hx hb (by omega) (Nat.le_of_ble_eq_true rfl) (tgt := 90) dX6_familyOf_19 (by decide) (fun c19 => ?_) (fun c19 => ?_)
      · have hfin : famL E sl = A9 ++ st9 := by rw [hpre, show 32 - i = 0 by omega]; rfl
        refine lv_aload_n hx hb dX6_familyOf_90 rfl (lv_at hl 1 rfl) ?_
        exact r_q (r := some H.size) hx hb hrt9 (Or.inl ⟨_, rfl⟩) hlk hS (by omega) (by omega) dX6_familyOf_91 (⟨rfl, arr, cap, by rw [hfin]; exact hFL, hok, har, hkp⟩)
      · refine lv_iload_n hx hb dX6_familyOf_22 rfl (lv_at hl 0 rfl) ?_
        refine lv_aload_n hx hb dX6_familyOf_23 rfl (lv_at hl 1 rfl) ?_
        refine k_ip (k_V (As := []) (rest := [.int (nI i)]) ⟨hx, hb, hml, hown, hts⟩ hev hS (c_Jx4a65c_size_8abf5 l hFL) (cwV 0 hts gX6_familyOf_Jx4a65c_size_8abf5 rfl rfl rfl (by decide +kernel) ⟨Nat.le_of_ble_eq_true rfl, Nat.le_of_ble_eq_true rfl⟩) (x_recv hK ((hFL.rec).choose_spec) rfl) rfl hl.1 (Nat.le_of_ble_eq_true rfl) dX6_familyOf_24 (by show _ ≤ (5 : Nat); omega) (by show _ ≤ (83 : Nat); omega)) hS hnt hlk (fun _ _ h _ => h.elim) (by show _ ≤ (5 : Nat); omega) (by show _ ≤ (83 : Nat); omega) (fun rq4_ H4 locs4 hP hz4 hS => ?_)
        refine W.widen (k := 1 + gC cap) (n := 3 + gS cap) (Nat.le_refl _) (Nat.le_refl _) ?_
        obtain ⟨eH, er⟩ := hP
        have eH := eH.symm
        subst eH
        refine x_top (y := (nI ((A9 ++ st9).length))) (er) ?_
        refine y_icmp_ge hx hb (by omega) (by omega) (tgt := 90) dX6_familyOf_27 (by decide) (fun c27 => ?_) (fun c27 => ?_)
        · have hfin : famL E sl = A9 ++ st9 := by
            have h0 : st9 = [] := List.eq_nil_of_length_eq_zero (by rw [List.length_append] at c27; omega)
            rw [hpre, h0, preL_nil]
          refine lv_aload_n hx hb dX6_familyOf_90 rfl (lv_at hl 1 rfl) ?_
          exact r_q (r := some H.size) hx hb hrt9 (Or.inl ⟨_, rfl⟩) hlk hS (by omega) (by omega) dX6_familyOf_91 (⟨rfl, arr, cap, by rw [hfin]; exact hFL, hok, har, hkp⟩)
        · obtain ⟨s9, st8, hst9⟩ : ∃ s9 st8, st9 = s9 :: st8 := by
            cases st9 with
            | nil => exact absurd c27 (by rw [List.append_nil]; omega)
            | cons a b => exact ⟨a, b, rfl⟩
          have hgi : gL (A9 ++ st9) i = s9 := by rw [hst9, ← hlen]; exact gL_at
          have hs9 := hfm s9 (hsub.subset (List.mem_append.mpr (Or.inr (by rw [hst9]; exact List.mem_cons_self))))
          have hpre2 : famL E sl = (A9 ++ [s9]) ++ preL E (32 - (i + 1)) (kidsF E s9 32 ++ st8) := by rw [hpre, hst9, show 32 - i = 32 - (i + 1) + 1 by omega, List.append_assoc]; rfl
          have hsub2 : ((A9 ++ [s9]) ++ (kidsF E s9 32 ++ st8)).Sublist (famL E sl) := by rw [hpre2]; exact (List.Sublist.refl _).append (pre_sub _ _ _)
          have hsj : ∀ j, j ≤ 32 → ((A9 ++ [s9]) ++ (kidsF E s9 (32 - j) ++ st8)).Sublist (famL E sl) := fun j hj => List.Sublist.trans ((List.Sublist.refl _).append (List.Sublist.append (by have h := kids_sub E s9 (32 - j) j; rw [show 32 - j + j = 32 by omega] at h; exact h) (List.Sublist.refl st8))) hsub2
          refine lv_aload_n hx hb dX6_familyOf_30 rfl (lv_at hl 1 rfl) ?_
          refine lv_iload_n hx hb dX6_familyOf_31 rfl (lv_at hl 0 rfl) ?_
          refine k_qp (k_V (As := [.int (nI i)]) (rest := []) ⟨hx, hb, hml, hown, hts⟩ hev hS (c_Jx4a65c_get_915e3 l hFL (i := i) c27) (cwV 1 hts gX6_familyOf_Jx4a65c_get_915e3 rfl rfl rfl (by decide +kernel) ⟨Nat.le_of_ble_eq_true rfl, Nat.le_of_ble_eq_true rfl⟩) (x_recv hK ((hFL.rec).choose_spec) rfl) rfl hl.1 (Nat.le_of_ble_eq_true rfl) dX6_familyOf_32 (by show _ ≤ (5 : Nat); omega) (by show _ ≤ (83 : Nat); omega)) hS hnt hlk (fun _ _ h _ => h.elim) (by show _ ≤ (5 : Nat); omega) (by show _ ≤ (83 : Nat); omega) (fun rq5_ H5 locs5 hP hz5 hS => ?_)
          refine W.widen (k := 1 + gC cap) (n := 3 + gS cap) (Nat.le_refl _) (Nat.le_refl _) ?_
          obtain ⟨eH, er⟩ := hP
          have eH := eH.symm
          subst eH
          refine x_tov (y := .ref ((ea b0 s9))) (by rw [er]; show va_rf (some (ea b0 (gL (A9 ++ st9) i))) = _; rw [hgi]; rfl) ?_
          refine va_castE hx hb hown (hts (.classLink RX6 9 "Archeloft$Entity") (by decide +kernel)) (x_recv hK (hE9 s9 hs9).1 rfl) dX6_familyOf_35 ?_
          refine lv_astore (lv' := [(4, .ref ((ea b0 s9))), (3, .int (nI i)), (2, .ref H.size), (0, .ref b0), (1, .ref ((ea b0 sl)))]) hx hb dX6_familyOf_38 hl (by decide) rfl (fun ls hl => ?_)
          refine lv_bipush (v := nI 31) hx hb dX6_familyOf_40 (by decide) ?_
          refine x_top (y := ((nI 32 + -1))) (by decide) ?_
          refine lv_istore (lv' := [(5, .int ((nI 32 + -1))), (4, .ref ((ea b0 s9))), (3, .int (nI i)), (2, .ref H.size), (0, .ref b0), (1, .ref ((ea b0 sl)))]) hx hb dX6_familyOf_42 hl (by decide) rfl (fun ls hl => ?_)
          have hle9 : A9 ++ st9 = (A9 ++ [s9]) ++ (kidsF E s9 (32 - 32) ++ st8) := by rw [hst9, List.append_assoc]; rfl
          rw [hle9] at hFL
          have loop44 : ∀ (n : Nat) (j : Nat) (arr2 cap2 : Nat) (H8 : Heap) (locs8 : List Loc), j < n → (j ≤ 32) → (AL D T dE H8 H.size arr2 cap2 ((A9 ++ [s9]) ++ (kidsF E s9 (32 - j) ++ st8)).length (fun q => ea b0 (gL ((A9 ++ [s9]) ++ (kidsF E s9 (32 - j) ++ st8)) q))) → (okF cap2) → (0 < cap2 → H.size ≤ arr2) → (KP H H8) → (va_S A s.heap H8 locs8) → ∀ (ls : Array Slot), lv_has ls 6 [(5, .int ((nI j + -1))), (4, .ref ((ea b0 s9))), (3, .int (nI i)), (2, .ref H.size), (0, .ref b0), (1, .ref ((ea b0 sl)))] → W p l e (rmL 8 5 83) s m args below meth c H8 locs8 (1 + gC cap2) (3 + gS cap2) (vx_MQ below (QQ A (fun r H1 => r = some H.size ∧ ∃ arr cap, AL D T dE H1 H.size arr cap (famL E sl).length (fun j => ea b0 (gL (famL E sl) j)) ∧ okF cap ∧ (0 < cap → H.size ≤ arr) ∧ KP H H1)) (XX A (XN)) args s 5 83 A) (F0 m 44 ls []) := by
            intro n
            induction n with
            | zero => intro j arr2 cap2 H8 locs8 hfuel; exact absurd hfuel (Nat.not_lt_zero _)
            | succ n ih44 =>
              intro j arr2 cap2 H8 locs8 hfuel hj hFL2 hok2 har2 hkp2 hS ls hl
              have hX8 := hX.kp hkp2
              have hE8 := hE.kp hkp2
              have hg8 := g_le hok2
              by_cases hj0 : j = 0
              · have hl : lv_has ls 6 [(5, .int ((-1))), (4, .ref ((ea b0 s9))), (3, .int (nI i)), (2, .ref H.size), (0, .ref b0), (1, .ref ((ea b0 sl)))] := by
                  have e9 : ((nI j + -1)) = ((-1)) := by rw [hj0]; decide
                  rw [← e9]; exact hl
                refine lv_iload hx hb dX6_familyOf_44 (lv_at hl 0 rfl) ?_
                refine lv_if_lt (tgt := 84) hx hb dX6_familyOf_46 (by decide) (fun c46 => ?_) (fun c46 => ?_)
                · refine lv_iinc (v := (nI (i + 1))) (lv' := [(3, .int (nI (i + 1))), (5, .int ((-1))), (4, .ref ((ea b0 s9))), (2, .ref H.size), (0, .ref b0), (1, .ref ((ea b0 sl)))]) hx hb dX6_familyOf_84 hl (k := 2) rfl (nI_inc _) (by decide) rfl (fun ls hl => ?_)
                  refine lv_goto (tgt := 16) hx hb dX6_familyOf_87 (by decide) ?_
                  rw [hj0] at hFL2
                  exact ih16 (i + 1) (A9 ++ [s9]) (kidsF E s9 32 ++ st8) arr2 cap2 H8 locs8 (by omega) (by omega) (by rw [List.length_append, hlen]; rfl) hpre2 hFL2 hok2 har2 hkp2 hS ls (lv_sub hl [0, 3, 4, 5] rfl)
                · exact absurd (by decide) c46
              · obtain ⟨j1, hj1⟩ : ∃ j1, j = j1 + 1 := ⟨j - 1, by omega⟩
                have hl : lv_has ls 6 [(5, .int (nI j1)), (4, .ref ((ea b0 s9))), (3, .int (nI i)), (2, .ref H.size), (0, .ref b0), (1, .ref ((ea b0 sl)))] := by
                  have e9 : ((nI j + -1)) = (nI j1) := by rw [hj1]; exact nI_dec _
                  rw [← e9]; exact hl
                have hj32 : j1 < 32 := by omega
                refine lv_iload hx hb dX6_familyOf_44 (lv_at hl 0 rfl) ?_
                refine y_if_lt hx hb (by omega) (tgt := 84) dX6_familyOf_46 (by decide) (fun c46 => ?_) (fun c46 => ?_)
                · exact c46.elim
                · refine lv_aload_n hx hb dX6_familyOf_49 rfl (lv_at hl 4 rfl) ?_
                  refine x_get (C := RX6) (TT := TX6) (N := 6) (ci := 9) (v := .ref ((b0 + 1))) hx hb hts in_X6_familyOf_RX6 hown hK (hX8.1) rfl 0 (by decide) (hts (.fieldLink RX6 11 "Archeloft" "slots" "[LArcheloft$Entity;") (by decide +kernel)) (fun _ h9 => h9) rfl dX6_familyOf_50 ?_
                  refine lv_iload hx hb dX6_familyOf_53 (lv_at hl 0 rfl) ?_
                  refine x_eald (i := j1) hx hb hK hX8.2 (by omega) (by decide) dX6_familyOf_55 ?_
                  refine x_tov (y := .ref (ea b0 j1)) rfl ?_
                  refine x_getN (C := RX1) (TT := TX1) (N := 6) (ci := 4) (v := va_rf (((mPar E j1).map (ea b0)))) hx hb hts in_X6_familyOf_RX1 hown hK ((hE8 j1 hj32).1) rfl 4 (by decide) (hev.2.2.2.2.1.2 ("Archeloft", 96, "Archeloft$Entity", "parent", "LArcheloft$Entity;") (by decide +kernel)) (fun _ h9 => h9) rfl dX6_familyOf_56 ?_
                  refine lv_aload hx hb dX6_familyOf_59 (lv_at hl 1 rfl) ?_
                  refine lv_acmp_ne (rx := ((mPar E j1).map (ea b0))) (ry := (some (ea b0 s9))) (tgt := 78) hx hb dX6_familyOf_61 (by decide) (fun c61 => ?_) (fun c61 => ?_)
                  · have hne9 : mPar E j1 ≠ some s9 := fun z => c61 (by rw [z]; rfl)
                    have hFL3 : AL D T dE H8 H.size arr2 cap2 ((A9 ++ [s9]) ++ (kidsF E s9 (32 - j1) ++ st8)).length (fun q => ea b0 (gL ((A9 ++ [s9]) ++ (kidsF E s9 (32 - j1) ++ st8)) q)) := by rw [kid_f hj32 hne9, ← hj1]; exact hFL2
                    refine lv_iinc (v := ((nI j1) + -1)) (lv' := [(5, .int ((nI j1) + -1)), (4, .ref ((ea b0 s9))), (3, .int (nI i)), (2, .ref H.size), (0, .ref b0), (1, .ref ((ea b0 sl)))]) hx hb dX6_familyOf_78 hl (k := 0) rfl (rfl) (by decide) rfl (fun ls hl => ?_)
                    refine lv_goto (tgt := 44) hx hb dX6_familyOf_81 (by decide) ?_
                    exact ih44 j1 arr2 cap2 H8 locs8 (by omega) (by omega) hFL3 hok2 har2 hkp2 hS ls (lv_sub hl [0, 1, 2, 3, 4, 5] rfl)
                  · obtain ⟨k9, hk8, hy9⟩ := omap_some c61
                    have hk9 : mPar E j1 = some s9 := by rw [hk8, ea_inj hy9]
                    refine lv_aload_n hx hb dX6_familyOf_64 rfl (lv_at hl 3 rfl) ?_
                    refine lv_iload_n hx hb dX6_familyOf_65 rfl (lv_at hl 2 rfl) ?_
                    refine lv_iconst (v := nI 1) hx hb dX6_familyOf_66 (by decide) ?_
                    refine y_iadd hx hb dX6_familyOf_67 ?_
                    refine lv_aload_n hx hb dX6_familyOf_68 rfl (lv_at hl 4 rfl) ?_
                    refine x_get (C := RX6) (TT := TX6) (N := 6) (ci := 9) (v := .ref ((b0 + 1))) hx hb hts in_X6_familyOf_RX6 hown hK (hX8.1) rfl 0 (by decide) (hts (.fieldLink RX6 11 "Archeloft" "slots" "[LArcheloft$Entity;") (by decide +kernel)) (fun _ h9 => h9) rfl dX6_familyOf_69 ?_
                    refine lv_iload hx hb dX6_familyOf_72 (lv_at hl 0 rfl) ?_
                    refine x_eald (i := j1) hx hb hK hX8.2 (by omega) (by decide) dX6_familyOf_74 ?_
                    refine x_tov (y := .ref (ea b0 j1)) rfl ?_
                    have hkt : kidsF E s9 (32 - j1) = j1 :: kidsF E s9 (32 - j) := by rw [hj1]; exact kid_t hj32 hk9
                    have hsub3 := hsj j hj
                    have hln9 : (A9 ++ [s9]).length = i + 1 := by rw [List.length_append, hlen]; rfl
                    have hlt33 : ((A9 ++ [s9]) ++ (kidsF E s9 (32 - j) ++ st8)).length < 33 := by
                      have h1 := Nat.le_trans hsub3.length_le hfl
                      omega
                    obtain ⟨ok7, gc7, gs7, cp7⟩ := g_add hok2 hFL2.2.1 hlt33
                    have hg7 := g_le ok7
                    have hvr : ea b0 j1 ≠ arr2 := fun z => by
                      by_cases h0 : 0 < cap2
                      · have h1 := har2 h0
                        have h2 := (hE j1 hj32).1.lt
                        omega
                      · have h1 := hFL2.2.2.2.1 (by omega)
                        obtain ⟨d1, d2, d3⟩ := hev.dE hS
                        exact d3 (by rw [← h1, ← z]; exact hAe j1 hj32)
                    refine k_vp (k_V (As := [.int (nI (i + 1)), .ref ((ea b0 j1))]) (rest := []) ⟨hx, hb, hml, hown, hts⟩ hev hS (c_insL l hFL2 hok2.k.lt (hAn _ (Nat.le_refl _)) (fun h0 => hAn _ (har2 h0)) (fun q9 h9 => hAn q9 (Nat.le_trans hkp2.1 h9)) (ci := 4) (rr := (RX1, TX1, 6)) (fun x hx2 => ⟨Nat.ne_of_lt (hE _ (hfm _ (hsub3.subset (gL_m hx2)))).1.lt, _, (hE8 _ (hfm _ (hsub3.subset (gL_m hx2)))).1⟩) rfl (by decide +kernel) (hE8 j1 hj32).1 (Nat.ne_of_lt (hE j1 hj32).1.lt) (i := i + 1) (by rw [List.length_append, hln9]; exact Nat.le_add_right _ _) hvr) (cwV 2 hts gX6_familyOf_Jx4a65c_add_7a177 rfl rfl rfl (by decide +kernel) ⟨Nat.le_of_ble_eq_true rfl, Nat.le_of_ble_eq_true rfl⟩) (x_recv hK ((hFL2.rec).choose_spec) rfl) rfl hl.1 (Nat.le_of_ble_eq_true rfl) dX6_familyOf_75 (by show _ ≤ (5 : Nat); omega) (by show _ ≤ (83 : Nat); omega)) hS hnt hlk (fun _ _ h _ => h.elim) (by show _ ≤ (5 : Nat); omega) (by show _ ≤ (83 : Nat); omega) (fun H6 locs6 hP hz6 hS => ?_)
                    obtain ⟨hL7, hz7, hq7⟩ := hP
                    refine W.widen (k := 1 + gC (nCap cap2 ((A9 ++ [s9]) ++ (kidsF E s9 (32 - j) ++ st8)).length)) (n := 3 + gS (nCap cap2 ((A9 ++ [s9]) ++ (kidsF E s9 (32 - j) ++ st8)).length)) (by omega) (by omega) ?_
                    have hFL7 : AL D T dE H6 H.size (nArr H8 arr2 cap2 ((A9 ++ [s9]) ++ (kidsF E s9 (32 - j) ++ st8)).length) (nCap cap2 ((A9 ++ [s9]) ++ (kidsF E s9 (32 - j) ++ st8)).length) ((A9 ++ [s9]) ++ (kidsF E s9 (32 - j1) ++ st8)).length (fun q => ea b0 (gL ((A9 ++ [s9]) ++ (kidsF E s9 (32 - j1) ++ st8)) q)) := by
                      rw [hkt]
                      rw [hj1] at hL7 ⊢
                      exact fam_ins hL7 hln9
                    have hkp7 : KP H H6 := ⟨by have := hkp2.1; omega, fun q9 h9 => (hq7 q9 (by have := hkp2.1; omega) (by omega) (fun h0 => by have := har2 h0; omega)).trans (hkp2.2 q9 h9)⟩
                    have har7 : 0 < nCap cap2 ((A9 ++ [s9]) ++ (kidsF E s9 (32 - j) ++ st8)).length → H.size ≤ nArr H8 arr2 cap2 ((A9 ++ [s9]) ++ (kidsF E s9 (32 - j) ++ st8)).length := fun _ => nArr_ge har2 hkp2.1
                    refine lv_iinc (v := ((nI j1) + -1)) (lv' := [(5, .int ((nI j1) + -1)), (4, .ref ((ea b0 s9))), (3, .int (nI i)), (2, .ref H.size), (0, .ref b0), (1, .ref ((ea b0 sl)))]) hx hb dX6_familyOf_78 hl (k := 0) rfl (rfl) (by decide) rfl (fun ls hl => ?_)
                    refine lv_goto (tgt := 44) hx hb dX6_familyOf_81 (by decide) ?_
                    exact ih44 j1 (nArr H8 arr2 cap2 ((A9 ++ [s9]) ++ (kidsF E s9 (32 - j) ++ st8)).length) (nCap cap2 ((A9 ++ [s9]) ++ (kidsF E s9 (32 - j) ++ st8)).length) H6 locs6 (by omega) (by omega) hFL7 ok7 har7 hkp7 hS ls (lv_sub hl [0, 1, 2, 3, 4, 5] rfl)
          exact loop44 (32 + 1) 32 arr cap H9 locs5 (Nat.lt_succ_self _) (Nat.le_refl _) hFL hok har hkp hS ls (lv_sub hl [0, 1, 2, 3, 4, 5] rfl)
  exact loop16 ((32 - 0) + 1) 0 [] [sl] (nArr H2 dE 0 0) (nCap 0 0) H3 locs3 (Nat.lt_succ_self _) (by decide) rfl rfl hFL0 (Or.inr (Or.inl rfl)) (fun _ => nArr_ge (fun h0 => absurd h0 (Nat.lt_irrefl 0)) k2.1) hkp0 hS ls (lv_sub hl [0, 1, 2, 3] rfl)

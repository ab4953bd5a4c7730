set_option maxRecDepth 100000 in
theorem ta_X6_refuseDuringWalk_117 : ∀ w ∈ (vx_atS RX6 117 "java/lang/IllegalStateException" ["java/lang/RuntimeException", "java/lang/Exception"]).filter goodWord, w ∈ wsX6_refuseDuringWalk := by decide +kernel
set_option maxRecDepth 100000 in
theorem in_X6_refuseDuringWalk_RX6 : ∀ w ∈ wsX60, w ∈ wsX6_refuseDuringWalk := by decide +kernel
set_option maxHeartbeats 4000000 in
set_option maxRecDepth 100000 in
theorem c_X6_refuseDuringWalk (l : Launch) {D : va_G} {T : Nat → ClassId} {dE mi : Nat} (hst : l.stackTraces = false) {A : Nat → Prop} {H : Heap} {b0 sl_ rl_ ql_ yl_ : Nat} {wo : Option Nat} {tk : Int32} (ho : oc D H b0 9 [.ref sl_, .ref rl_, .ref ql_, .ref yl_, va_rf wo, .int tk]) : vx_Met l yX6_refuseDuringWalk wsX6_refuseDuringWalk (rmL 6 1 6) (PcE D T dE mi A H [.ref b0]) (QV A (fun H1 => H1 = H ∧ wo = none)) (XX A (XE H (fun E => E = "java/lang/IllegalStateException" ∧ wo ≠ none))) 1 6 A := by
  refine entry (cc := cX6_refuseDuringWalk) (maxL := 1) (ret := none) (by decide) rfl (Nat.le_of_ble_eq_true rfl) ?_
  intro p e s m args below meth c hx hb hrt9 hml hown hts hlk hnt hnm hev hS ls hl
  have hown : s.vm.findClass RX6 = some m.cls := hown
  have hK := hev.1
  have hl : lv_has ls 1 [(0, .ref b0)] := hl
  refine lv_aload_n hx hb dX6_refuseDuringWalk_0 rfl (lv_at hl 0 rfl) ?_
  refine x_get (C := RX6) (TT := TX6) (N := 6) (ci := 9) (v := va_rf wo) hx hb hts in_X6_refuseDuringWalk_RX6 hown hK (ho) rfl 4 (by decide) (hts (.fieldLink RX6 28 "Archeloft" "walkOfNow" "LArcheloft$Walk;") (by decide +kernel)) (fun _ h9 => h9) rfl dX6_refuseDuringWalk_1 ?_
  refine y_ifnull hx hb (tgt := 17) dX6_refuseDuringWalk_4 (by decide) (fun c4 => ?_) (fun a4 c4 => ?_)
  · exact r_v hx hb hrt9 hlk hS (Nat.le_of_ble_eq_true rfl) (Nat.le_of_ble_eq_true rfl) dX6_refuseDuringWalk_17 (⟨rfl, c4⟩)
  · exact k_thr (cls := "java/lang/IllegalStateException") (text := "there is a walk") (ik := 113) (is := 233) (ic := 117) hx hb hst hown hev hS (by decide +kernel) (hts (.classLink RX6 113 "java/lang/IllegalStateException") (by decide +kernel)) (hts (.initialized "java/lang/IllegalStateException") (by decide +kernel)) (by decide +kernel) (by decide +kernel) (fun w h => hts w (ta_X6_refuseDuringWalk_117 w h)) (by decide +kernel) (by decide +kernel) (hl.1.trans hml.symm) dX6_refuseDuringWalk_7 dX6_refuseDuringWalk_10 dX6_refuseDuringWalk_11 dX6_refuseDuringWalk_13 dX6_refuseDuringWalk_16 hnt (Nat.le_of_ble_eq_true rfl) (Nat.le_of_ble_eq_true rfl) (Nat.le_of_ble_eq_true rfl) (Nat.le_of_ble_eq_true rfl) hlk ((fun H1 h1 h2 => ⟨⟨rfl, by rw [c4]; exact fun z => nomatch z⟩, h1, h2⟩)) (Nat.le_of_ble_eq_true rfl) (Nat.le_of_ble_eq_true rfl)
set_option maxRecDepth 100000 in
theorem ta_X6_walkThatGoesOn_117 : ∀ w ∈ (vx_atS RX6 117 "java/lang/IllegalStateException" ["java/lang/RuntimeException", "java/lang/Exception"]).filter goodWord, w ∈ wsX6_walkThatGoesOn := by decide +kernel
set_option maxRecDepth 100000 in
theorem in_X6_walkThatGoesOn_RX6 : ∀ w ∈ wsX60, w ∈ wsX6_walkThatGoesOn := by decide +kernel
set_option maxHeartbeats 4000000 in
set_option maxRecDepth 100000 in
theorem c_X6_walkThatGoesOn (l : Launch) {D : va_G} {T : Nat → ClassId} {dE mi : Nat} (hst : l.stackTraces = false) {A : Nat → Prop} {H : Heap} {b0 sl_ rl_ ql_ yl_ : Nat} {wo : Option Nat} {tk : Int32} (ho : oc D H b0 9 [.ref sl_, .ref rl_, .ref ql_, .ref yl_, va_rf wo, .int tk]) : vx_Met l yX6_walkThatGoesOn wsX6_walkThatGoesOn (rmL 6 1 6) (PcE D T dE mi A H [.ref b0]) (QQ A (fun r H1 => H1 = H ∧ r = wo ∧ wo ≠ none)) (XX A (XE H (fun E => E = "java/lang/IllegalStateException" ∧ wo = none))) 1 6 A := by
  refine entry (cc := cX6_walkThatGoesOn) (maxL := 2) (ret := (some (.object "Archeloft$Walk"))) (by decide) rfl (Nat.le_of_ble_eq_true rfl) ?_
  intro p e s m args below meth c hx hb hrt9 hml hown hts hlk hnt hnm hev hS ls hl
  have hown : s.vm.findClass RX6 = some m.cls := hown
  have hK := hev.1
  have hl : lv_has ls 2 [(0, .ref b0)] := hl
  refine lv_aload_n hx hb dX6_walkThatGoesOn_0 rfl (lv_at hl 0 rfl) ?_
  refine x_get (C := RX6) (TT := TX6) (N := 6) (ci := 9) (v := va_rf wo) hx hb hts in_X6_walkThatGoesOn_RX6 hown hK (ho) rfl 4 (by decide) (hts (.fieldLink RX6 28 "Archeloft" "walkOfNow" "LArcheloft$Walk;") (by decide +kernel)) (fun _ h9 => h9) rfl dX6_walkThatGoesOn_1 ?_
  refine y_astore_n (lv' := [(1, va_rf wo), (0, .ref b0)]) hx hb dX6_walkThatGoesOn_4 rfl hl (by decide) rfl (fun ls hl => ?_)
  refine y_aload_n hx hb dX6_walkThatGoesOn_5 rfl (lv_at hl 0 rfl) ?_
  refine y_ifnonnull hx hb (tgt := 19) dX6_walkThatGoesOn_6 (by decide) (fun a6 c6 => ?_) (fun c6 => ?_)
  · refine y_aload_n hx hb dX6_walkThatGoesOn_19 rfl (lv_at hl 0 rfl) ?_
    exact r_q (r := wo) hx hb hrt9 (Or.inl ⟨_, rfl⟩) hlk hS (Nat.le_of_ble_eq_true rfl) (Nat.le_of_ble_eq_true rfl) dX6_walkThatGoesOn_20 (⟨rfl, rfl, by rw [c6]; exact fun z => nomatch z⟩)
  · exact k_thr (cls := "java/lang/IllegalStateException") (text := "there is no walk") (ik := 113) (is := 235) (ic := 117) hx hb hst hown hev hS (by decide +kernel) (hts (.classLink RX6 113 "java/lang/IllegalStateException") (by decide +kernel)) (hts (.initialized "java/lang/IllegalStateException") (by decide +kernel)) (by decide +kernel) (by decide +kernel) (fun w h => hts w (ta_X6_walkThatGoesOn_117 w h)) (by decide +kernel) (by decide +kernel) (hl.1.trans hml.symm) dX6_walkThatGoesOn_9 dX6_walkThatGoesOn_12 dX6_walkThatGoesOn_13 dX6_walkThatGoesOn_15 dX6_walkThatGoesOn_18 hnt (Nat.le_of_ble_eq_true rfl) (Nat.le_of_ble_eq_true rfl) (Nat.le_of_ble_eq_true rfl) (Nat.le_of_ble_eq_true rfl) hlk ((fun H1 h1 h2 => ⟨⟨rfl, c6⟩, h1, h2⟩)) (Nat.le_of_ble_eq_true rfl) (Nat.le_of_ble_eq_true rfl)
set_option maxRecDepth 100000 in
theorem in_X6_tick_RX6 : ∀ w ∈ wsX60, w ∈ wsX6_tick := by decide +kernel
set_option maxHeartbeats 4000000 in
set_option maxRecDepth 100000 in
theorem c_X6_tick (l : Launch) {D : va_G} {T : Nat → ClassId} {dE mi : Nat} (hst : l.stackTraces = false) {A : Nat → Prop} {H : Heap} {b0 sl_ rl_ ql_ yl_ : Nat} {wo : Option Nat} {tk : Int32} (ho : oc D H b0 9 [.ref sl_, .ref rl_, .ref ql_, .ref yl_, va_rf wo, .int tk]) : vx_Met l yX6_tick wsX6_tick (rmL 0 0 0) (PcE D T dE mi A H [.ref b0]) (QI A (fun r H1 => H1 = H ∧ r = tk)) (XX A (XN)) 0 0 A := by
  refine entry (cc := cX6_tick) (maxL := 1) (ret := (some .int)) (by decide) rfl (Nat.le_of_ble_eq_true rfl) ?_
  intro p e s m args below meth c hx hb hrt9 hml hown hts hlk hnt hnm hev hS ls hl
  have hown : s.vm.findClass RX6 = some m.cls := hown
  have hK := hev.1
  have hl : lv_has ls 1 [(0, .ref b0)] := hl
  refine lv_aload_n hx hb dX6_tick_0 rfl (lv_at hl 0 rfl) ?_
  refine x_get (C := RX6) (TT := TX6) (N := 6) (ci := 9) (v := .int tk) hx hb hts in_X6_tick_RX6 hown hK (ho) rfl 5 (by decide) (hts (.fieldLink RX6 32 "Archeloft" "tickOfNow" "I") (by decide +kernel)) (fun _ h9 => h9) rfl dX6_tick_1 ?_
  exact r_i hx hb hrt9 hlk hS (Nat.le_of_ble_eq_true rfl) (Nat.le_of_ble_eq_true rfl) dX6_tick_4 (⟨rfl, rfl⟩)

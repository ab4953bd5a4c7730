/-- the three refusals that a component's call may end with -/
def XA (H : Heap) (c : Nat) : String → Heap → Prop := XE H (fun E9 => (E9 = "java/util/NoSuchElementException" ∧ c = 1) ∨ (E9 = "java/lang/IllegalArgumentException" ∧ c = 2) ∨ (E9 = "java/lang/IllegalStateException" ∧ c = 3))
set_option maxRecDepth 100000 in
theorem ta_X6_ownerOf_117 : ∀ w ∈ (vx_atS RX6 117 "java/lang/IllegalStateException" ["java/lang/RuntimeException", "java/lang/Exception"]).filter goodWord, w ∈ wsX6_ownerOf := by decide +kernel
set_option maxHeartbeats 4000000 in
set_option maxRecDepth 100000 in
theorem c_X6_ownerOf (l : Launch) {D : va_G} {T : Nat → ClassId} {dE mi : Nat} (hst : l.stackTraces = false) {A : Nat → Prop} {H : Heap} {b0 : Nat} {wo : Option Nat} {tk : Int32} (hX : PX D T b0 H wo tk) {M : mSt} (hE : PE D T b0 H (sE M)) (iE : InvE (sE M)) (x kd : Int32) : vx_Met l yX6_ownerOf wsX6_ownerOf (rmL 7 3 18) (PcE D T dE mi A H [.ref b0, .int x, .int kd]) (QQ A (fun r H1 => H1 = H ∧ ∃ sl i, ask M x kd = (0, sl, i) ∧ look (sE M) x = some sl ∧ kd = nI i ∧ i < 6 ∧ sl < 32 ∧ mAl (sE M) sl = true ∧ r = some (ea b0 sl))) (XX A (XA H (ask M x kd).1)) 3 18 A := by
  refine entry (cc := cX6_ownerOf) (maxL := 4) (ret := (some (.object "Archeloft$Entity"))) (by decide) rfl (Nat.le_of_ble_eq_true rfl) ?_
  intro p e s m args below meth c hx hb hrt9 hml hown hts hlk hnt hnm hev hS ls hl
  have hown : s.vm.findClass RX6 = some m.cls := hown
  have hK := hev.1
  have hl : lv_has ls 4 [(0, .ref b0), (1, .int x), (2, .int kd)] := hl
  refine lv_aload_n hx hb dX6_ownerOf_0 rfl (lv_at hl 0 rfl) ?_
  refine lv_iload_n hx hb dX6_ownerOf_1 rfl (lv_at hl 1 rfl) ?_
  refine k_qp (k_V (As := [.int x]) (rest := []) ⟨hx, hb, hml, hown, hts⟩ hev hS (c_X6_entityOf l hst hX hE x) (cwV 1 hts gX6_ownerOf_X6_entityOf rfl rfl rfl (by decide +kernel) ⟨Nat.le_of_ble_eq_true rfl, Nat.le_of_ble_eq_true rfl⟩) (x_recv hK hX.1 rfl) rfl hl.1 (Nat.le_of_ble_eq_true rfl) dX6_ownerOf_2 (Nat.le_of_ble_eq_true rfl) (Nat.le_of_ble_eq_true rfl)) hS hnt hlk (fun E9 H9 h9 z9 => ⟨Or.inl ⟨h9.1.1, by rw [ask_1 h9.1.2]⟩, h9.2⟩) (Nat.le_of_ble_eq_true rfl) (Nat.le_of_ble_eq_true rfl) (fun rq1_ H1 locs1 hP hz1 hS => ?_)
  obtain ⟨eH, sl, hlk9, er⟩ := hP
  have eH := eH.symm
  subst eH
  refine x_tov (y := .ref ((ea b0 sl))) (by rw [er]; rfl) ?_
  obtain ⟨hs32, hsal, -⟩ := look_some hlk9
  refine lv_astore_n (lv' := [(3, .ref ((ea b0 sl))), (0, .ref b0), (1, .int x), (2, .int kd)]) hx hb dX6_ownerOf_5 rfl hl (by decide) rfl (fun ls hl => ?_)
  refine lv_iload_n hx hb dX6_ownerOf_6 rfl (lv_at hl 3 rfl) ?_
  refine k_vp (k_S (As := [.int kd]) (rest := []) ⟨hx, hb, hml, hown, hts⟩ hev hS (c_X6_refuseNoKind l hst kd) (va_cwS 1 hts gX6_ownerOf_X6_refuseNoKind rfl rfl rfl (by decide +kernel) ⟨Nat.le_of_ble_eq_true rfl, Nat.le_of_ble_eq_true rfl⟩) rfl hl.1 (Nat.le_of_ble_eq_true rfl) dX6_ownerOf_7 (Nat.le_of_ble_eq_true rfl) (Nat.le_of_ble_eq_true rfl)) hS hnt hlk (fun E9 H9 h9 z9 => ⟨Or.inr (Or.inl ⟨h9.1.1, by rw [ask_2 hlk9 h9.1.2]⟩), h9.2⟩) (Nat.le_of_ble_eq_true rfl) (Nat.le_of_ble_eq_true rfl) (fun H2 locs2 hP hz2 hS => ?_)
  obtain ⟨eH, hk6⟩ := hP
  have eH := eH.symm
  subst eH
  obtain ⟨i, hi6, hkd⟩ := isK_of hk6
  have hl : lv_has ls 4 [(3, .ref ((ea b0 sl))), (0, .ref b0), (1, .int x), (2, .int (nI i))] := by
    have e9 : kd = (nI i) := hkd
    rw [← e9]; exact hl
  refine lv_aload_n hx hb dX6_ownerOf_10 rfl (lv_at hl 0 rfl) ?_
  refine lv_iload_n hx hb dX6_ownerOf_11 rfl (lv_at hl 3 rfl) ?_
  refine k_ip (k_V (As := [.int (nI i)]) (rest := []) ⟨hx, hb, hml, hown, hts⟩ hev hS (c_X1_has l (hE sl hs32).1 hi6 (iE.1 sl)) (cwV 1 hts gX6_ownerOf_X1_has rfl rfl rfl (by decide +kernel) ⟨Nat.le_of_ble_eq_true rfl, Nat.le_of_ble_eq_true rfl⟩) (x_recv hK (hE sl hs32).1 rfl) rfl hl.1 (Nat.le_of_ble_eq_true rfl) dX6_ownerOf_12 (Nat.le_of_ble_eq_true rfl) (Nat.le_of_ble_eq_true rfl)) hS hnt hlk (fun _ _ h _ => h.elim) (Nat.le_of_ble_eq_true rfl) (Nat.le_of_ble_eq_true rfl) (fun rq3_ H3 locs3 hP hz3 hS => ?_)
  refine W.widen (k := 0 + 1 + 1) (n := 0 + 6 + 6) (Nat.le_refl _) (Nat.le_refl _) ?_
  obtain ⟨eH, er3⟩ := hP
  have eH := eH.symm
  subst eH
  refine x_top (y := (bI (bitS (mKd (sE M) sl) i))) (er3) ?_
  refine y_bif_ne hx hb (tgt := 28) dX6_ownerOf_15 (by decide) (fun c15 => ?_) (fun c15 => ?_)
  · refine lv_aload_n hx hb dX6_ownerOf_28 rfl (lv_at hl 0 rfl) ?_
    exact r_q (r := some (ea b0 sl)) hx hb hrt9 (Or.inl ⟨_, rfl⟩) hlk hS (Nat.le_of_ble_eq_true rfl) (Nat.le_of_ble_eq_true rfl) dX6_ownerOf_29 (⟨rfl, sl, i, by rw [hkd]; exact ask_0 hlk9 hi6 (by rw [← hkd]; exact hk6) c15, hlk9, hkd, hi6, hs32, hsal, rfl⟩)
  · exact k_thr (cls := "java/lang/IllegalStateException") (text := "the entity does not have that kind") (ik := 113) (is := 248) (ic := 117) hx hb hst hown hev hS (by decide +kernel) (hts (.classLink RX6 113 "java/lang/IllegalStateException") (by decide +kernel)) (hts (.initialized "java/lang/IllegalStateException") (by decide +kernel)) (by decide +kernel) (by decide +kernel) (fun w h => hts w (ta_X6_ownerOf_117 w h)) (by decide +kernel) (by decide +kernel) (hl.1.trans hml.symm) dX6_ownerOf_18 dX6_ownerOf_21 dX6_ownerOf_22 dX6_ownerOf_24 dX6_ownerOf_27 hnt (Nat.le_of_ble_eq_true rfl) (Nat.le_of_ble_eq_true rfl) (Nat.le_of_ble_eq_true rfl) (Nat.le_of_ble_eq_true rfl) hlk ((fun H1 h1 h2 => ⟨Or.inr (Or.inr ⟨rfl, by rw [hkd, ask_3 hlk9 hi6 (by rw [← hkd]; exact hk6) c15]⟩), h1, h2⟩)) (Nat.le_of_ble_eq_true rfl) (Nat.le_of_ble_eq_true rfl)

theorem look_h {E : mE} {k : Nat} (hk : k < 32) (ha : mAl E k = true) (hb : ∀ j, mHad E j ≤ 900000) : look E (handle E k) = some k := by
  have h1 := hb k
  unfold handle
  rw [look_nI (b := 900000) (by omega) (by omega) hb, show (k + 32 * mHad E k) % 32 = k by omega, show (k + 32 * mHad E k) / 32 = mHad E k by omega, if_pos ⟨ha, rfl⟩]
theorem made_add {M : mSt} {k v : Int32} {sl i : Nat} (hs32 : sl < 32) (hi : i < 6) (h2 : isK (nI i) = true) (hb : ∀ j, mHad (sE M) j ≤ 900000) (hw : ¬ wOn (sW M) = true) : oAdd (wER M (makesE (sE M) sl) (rowAdd (sR M) 0 sl)) (handle (sE M) sl) (nI i) v = (0, nI (setB 0 i), wER M (addsE (makesE (sE M) sl) sl i v (sT M)) (addsR (makesE (sE M) sl) (rowAdd (sR M) 0 sl) sl i)) := by
  have a1 : mAl (makesE (sE M) sl) sl = true := nu_s
  have a2 : mKd (makesE (sE M) sl) sl = 0 := nu_s
  have hl : look (makesE (sE M) sl) (handle (sE M) sl) = some sl := look_h (E := makesE (sE M) sl) hs32 a1 hb
  have h3 := add_0 (M := wER M (makesE (sE M) sl) (rowAdd (sR M) 0 sl)) (v := v) hl hi h2 (by show bitS (mKd (makesE (sE M) sl) sl) i = false; rw [a2]; exact Nat.zero_testBit i) hw
  have h4 : mKd (sE (wER M (makesE (sE M) sl) (rowAdd (sR M) 0 sl))) sl = 0 := a2
  rw [h4] at h3
  exact h3
def madeE (E : mE) (i : Nat) (v t : Int32) : mE := addsE (makesE E (free E)) (free E) i v t
def madeR (E : mE) (R : mR) (i : Nat) : mR := addsR (makesE E (free E)) (rowAdd R 0 (free E)) (free E) i
theorem make_0 {M : mSt} (h : (oMake M).1 = 0) : free (sE M) < 32 ∧ ¬ wOn (sW M) = true ∧ oMake M = (0, handle (sE M) (free (sE M)), wER M (makesE (sE M) (free (sE M))) (rowAdd (sR M) 0 (free (sE M)))) := by
  by_cases c : free (sE M) = 32 ∨ wOn (sW M) = true
  · rw [show oMake M = oErr M 1 from if_pos c] at h; cases h
  · obtain ⟨i, h1, h2, -, -⟩ := free_ex (sE M)
    exact ⟨by rw [h1]; have : ¬ free (sE M) = 32 := fun z => c (Or.inl z); omega, fun z => c (Or.inr z), if_neg c⟩
set_option maxHeartbeats 4000000 in
set_option maxRecDepth 100000 in
theorem c_X6_makeWith (l : Launch) {D : va_G} {T : Nat → ClassId} {dE mi : Nat} (hst : l.stackTraces = false) {A : Nat → Prop} {H : Heap} {b0 : Nat} {tg : Nat → Nat} {wo : Option Nat} {M : mSt} {y : mLy} (hC : Core D T dE b0 tg H A (sE M) (sR M) y wo (sT M)) (iE : InvE (sE M)) (iR : InvR (sE M) (sR M)) (hwo : wOn (sW M) = wo.isSome) (hbd : ∀ j, mHad (sE M) j ≤ 900000) (hwn : wo = none) (kd v : Int32) : vx_Met l yX6_makeWith wsX6_makeWith (rmL 11 14 258) (PcE D T dE mi A H [.ref b0, .int kd, .int v]) (QV A (fun H1 => free (sE M) < 32 ∧ isK kd = true ∧ Nxt D T dE b0 A tg H H1 (madeE (sE M) (ix kd) v (sT M)) (madeR (sE M) (sR M) (ix kd)) wo (sT M))) (XX A (XE H (fun E9 => (E9 = "java/lang/IllegalArgumentException" ∨ E9 = "java/lang/IllegalStateException") ∧ (free (sE M) = 32 ∨ isK kd = false)))) 14 258 A := by
  refine entry (cc := cX6_makeWith) (maxL := 4) (ret := none) (by decide) rfl (Nat.le_of_ble_eq_true rfl) ?_
  intro p e s m args below meth c hx hb hrt9 hml hown hts hlk hnt hnm hev hS ls hl
  have hown : s.vm.findClass RX6 = some m.cls := hown
  have hK := hev.1
  have hl : lv_has ls 4 [(0, .ref b0), (1, .int kd), (2, .int v)] := hl
  obtain ⟨hT, hX, hE, hR⟩ := id hC
  refine lv_iload_n hx hb dX6_makeWith_0 rfl (lv_at hl 1 rfl) ?_
  refine k_vp (k_S (As := [.int kd]) (rest := []) ⟨hx, hb, hml, hown, hts⟩ hev hS (c_X6_refuseNoKind l hst kd) (va_cwS 1 hts gX6_makeWith_X6_refuseNoKind rfl rfl rfl (by decide +kernel) ⟨Nat.le_of_ble_eq_true rfl, Nat.le_of_ble_eq_true rfl⟩) rfl hl.1 (Nat.le_of_ble_eq_true rfl) dX6_makeWith_1 (Nat.le_of_ble_eq_true rfl) (Nat.le_of_ble_eq_true rfl)) hS hnt hlk (fun E9 H9 h9 z9 => ⟨⟨Or.inl h9.1.1, Or.inr h9.1.2⟩, h9.2⟩) (Nat.le_of_ble_eq_true rfl) (Nat.le_of_ble_eq_true rfl) (fun H1 locs1 hP hz1 hS => ?_)
  obtain ⟨eH, hk6⟩ := hP
  have eH := eH.symm
  subst eH
  obtain ⟨i, hi6, hkd⟩ := isK_of hk6
  have hl : lv_has ls 4 [(0, .ref b0), (1, .int (nI i)), (2, .int v)] := by
    have e9 : kd = (nI i) := hkd
    rw [← e9]; exact hl
  subst hkd
  refine lv_aload_n hx hb dX6_makeWith_4 rfl (lv_at hl 0 rfl) ?_
  refine k_ip (k_V (As := []) (rest := []) ⟨hx, hb, hml, hown, hts⟩ hev hS (c_X6_make l hst hC iE iR hwo) (cwV 0 hts gX6_makeWith_X6_make rfl rfl rfl (by decide +kernel) ⟨Nat.le_of_ble_eq_true rfl, Nat.le_of_ble_eq_true rfl⟩) (x_recv hK hX.1 rfl) rfl hl.1 (Nat.le_of_ble_eq_true rfl) dX6_makeWith_5 (Nat.le_of_ble_eq_true rfl) (Nat.le_of_ble_eq_true rfl)) hS hnt hlk (fun E9 H9 h9 z9 => ⟨⟨Or.inr h9.1.1, Or.inl (by have h8 := h9.1.2; unfold oMake at h8; by_cases c : free (sE M) = 32 ∨ wOn (sW M) = true; exact c.elim id (fun z => absurd z (wo_n hwo hwn)); rw [if_neg c] at h8; cases h8)⟩, h9.2⟩) (Nat.le_of_ble_eq_true rfl) (Nat.le_of_ble_eq_true rfl) (fun rq2_ H2 locs2 hP hz2 hS => ?_)
  obtain ⟨hm0, hm1, hm2⟩ := hP
  obtain ⟨hf32, hw9, hme⟩ := make_0 hm0
  rw [hme] at hm1 hm2
  obtain ⟨tg1, y1, hC1, x1, f1⟩ := hm2
  obtain ⟨iE1, iR1⟩ := makes_inv iE iR (free_al hf32) hf32
  obtain ⟨hT1, hX1, -, -⟩ := id hC1
  refine x_top (y := ((handle (sE M) (free (sE M))))) (hm1) ?_
  have hma := fun (u : Int32) => made_add (M := M) (v := u) (sl := free (sE M)) (k := 0) hf32 hi6 hk6 hbd (wo_n hwo hwn)
  refine lv_istore_n (lv' := [(3, .int ((handle (sE M) (free (sE M))))), (0, .ref b0), (1, .int (nI i)), (2, .int v)]) hx hb dX6_makeWith_8 rfl hl (by decide) rfl (fun ls hl => ?_)
  refine lv_aload_n hx hb dX6_makeWith_9 rfl (lv_at hl 1 rfl) ?_
  refine lv_iload_n hx hb dX6_makeWith_10 rfl (lv_at hl 0 rfl) ?_
  refine lv_iload_n hx hb dX6_makeWith_11 rfl (lv_at hl 2 rfl) ?_
  refine lv_iload_n hx hb dX6_makeWith_12 rfl (lv_at hl 3 rfl) ?_
  refine k_ip (k_V (As := [.int ((handle (sE M) (free (sE M)))), .int (nI i), .int v]) (rest := []) ⟨hx, hb, hml, hown, hts⟩ hev hS (c_X6_add l hst (M := wER M (makesE (sE M) (free (sE M))) (rowAdd (sR M) 0 (free (sE M)))) hC1 iE1 iR1 hwo (handle (sE M) (free (sE M))) (nI i) v) (cwV 3 hts gX6_makeWith_X6_add rfl rfl rfl (by decide +kernel) ⟨Nat.le_of_ble_eq_true rfl, Nat.le_of_ble_eq_true rfl⟩) (x_recv hK hX1.1 rfl) rfl hl.1 (Nat.le_of_ble_eq_true rfl) dX6_makeWith_13 (Nat.le_of_ble_eq_true rfl) (Nat.le_of_ble_eq_true rfl)) hS hnt hlk (fun E9 H9 h9 z9 => absurd h9.1 (by rw [hma v]; rintro (h | h | h) <;> (have h5 : (0 : Nat) = _ := h.2; omega))) (Nat.le_of_ble_eq_true rfl) (Nat.le_of_ble_eq_true rfl) (fun rq3_ H3 locs3 hP hz3 hS => ?_)
  obtain ⟨-, -, hn2⟩ := hP
  rw [hma v] at hn2
  refine lv_pop hx hb dX6_makeWith_16 rfl ?_
  exact r_v hx hb hrt9 hlk hS (Nat.le_of_ble_eq_true rfl) (Nat.le_of_ble_eq_true rfl) dX6_makeWith_17 (⟨hf32, hk6, by rw [show ix (nI i) = i from ix_nI (by omega)]; exact Nxt.tr x1 f1 hn2⟩)

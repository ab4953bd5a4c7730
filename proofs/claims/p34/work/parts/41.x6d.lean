theorem and31 (x : Int32) : x &&& nI 31 = nI (x.toBitVec.toNat % 32) := by
  apply Int32.toBitVec_inj.mp
  rw [Int32.toBitVec_and]
  apply BitVec.eq_of_toNat_eq
  rw [BitVec.toNat_and]
  have h1 : (nI 31).toBitVec.toNat = 2 ^ 5 - 1 := by decide
  rw [h1, Nat.and_two_pow_sub_one_eq_mod]
  show _ = (BitVec.ofNat 32 (x.toBitVec.toNat % 32)).toNat
  rw [BitVec.toNat_ofNat]
  omega
/-- the store's own object and its slots -/
def PX (D : va_G) (T : Nat → ClassId) (b : Nat) (H : Heap) (wo : Option Nat) (tk : Int32) : Prop := oc D H b 9 [.ref (b + 1), .ref (b + 2), .ref (b + 3), .ref (b + 4), va_rf wo, .int tk] ∧ rc (T 2) H (b + 1) 32 (fun i => some (ea b i))
theorem look_t {E : mE} {x : Int32} (h1 : mAl E (x.toBitVec.toNat % 32) = true) (h2 : handle E (x.toBitVec.toNat % 32) = x) : look E x = some (x.toBitVec.toNat % 32) := if_pos ⟨h1, h2⟩
theorem look_b {E : mE} {x : Int32} : (mAl E (x.toBitVec.toNat % 32) && decide (handle E (x.toBitVec.toNat % 32) = x)) = (look E x).isSome := by
  unfold look
  by_cases c1 : mAl E (x.toBitVec.toNat % 32) = true ∧ handle E (x.toBitVec.toNat % 32) = x
  · rw [if_pos c1, c1.1, decide_eq_true c1.2]; rfl
  · rw [if_neg c1]
    cases q : mAl E (x.toBitVec.toNat % 32) with
    | false => rfl
    | true => rw [decide_eq_false (fun z => c1 ⟨q, z⟩)]; rfl
theorem look_k {E : mE} {x : Int32} (h : (look E x).isSome = true) : look E x = some (x.toBitVec.toNat % 32) := by
  unfold look at h ⊢
  by_cases c1 : mAl E (x.toBitVec.toNat % 32) = true ∧ handle E (x.toBitVec.toNat % 32) = x
  · rw [if_pos c1]
  · rw [if_neg c1] at h; cases h
theorem look_z {E : mE} {x : Int32} (h : (look E x).isSome = false) : look E x = none := by
  cases q : look E x with
  | none => rfl
  | some k => rw [q] at h; cases h
set_option maxRecDepth 100000 in
theorem in_X6_slotOf_RX6 : ∀ w ∈ wsX60, w ∈ wsX6_slotOf := by decide +kernel
set_option maxHeartbeats 4000000 in
set_option maxRecDepth 100000 in
theorem c_X6_slotOf (l : Launch) {D : va_G} {T : Nat → ClassId} {dE mi : Nat} (hst : l.stackTraces = false) {A : Nat → Prop} {H : Heap} {b0 : Nat} {wo : Option Nat} {tk : Int32} (hX : PX D T b0 H wo tk) (x : Int32) : vx_Met l yX6_slotOf wsX6_slotOf (rmL 0 0 0) (PcE D T dE mi A H [.ref b0, .int x]) (QQ A (fun r H1 => H1 = H ∧ r = some (ea b0 (x.toBitVec.toNat % 32)))) (XX A (XN)) 0 0 A := by
  refine entry (cc := cX6_slotOf) (maxL := 2) (ret := (some (.object "Archeloft$Entity"))) (by decide) rfl (Nat.le_of_ble_eq_true rfl) ?_
  intro p e s m args below meth c hx hb hrt9 hml hown hts hlk hnt hnm hev hS ls hl
  have hown : s.vm.findClass RX6 = some m.cls := hown
  have hK := hev.1
  have hl : lv_has ls 2 [(0, .ref b0), (1, .int x)] := hl
  refine lv_aload_n hx hb dX6_slotOf_0 rfl (lv_at hl 0 rfl) ?_
  refine x_get (C := RX6) (TT := TX6) (N := 6) (ci := 9) (v := .ref ((b0 + 1))) hx hb hts in_X6_slotOf_RX6 hown hK (hX.1) rfl 0 (by decide) (hts (.fieldLink RX6 11 "Archeloft" "slots" "[LArcheloft$Entity;") (by decide +kernel)) (fun _ h9 => h9) rfl dX6_slotOf_1 ?_
  refine lv_iload_n hx hb dX6_slotOf_4 rfl (lv_at hl 1 rfl) ?_
  refine lv_bipush (v := nI 31) hx hb dX6_slotOf_5 (by decide) ?_
  refine lv_iand hx hb dX6_slotOf_7 ?_
  refine x_top (y := (nI ((x.toBitVec.toNat % 32)))) (and31 x) ?_
  refine x_eald (i := (x.toBitVec.toNat % 32)) hx hb hK hX.2 (by omega) (by decide) dX6_slotOf_8 ?_
  refine x_tov (y := .ref (ea b0 (x.toBitVec.toNat % 32))) rfl ?_
  exact r_q (r := some (ea b0 (x.toBitVec.toNat % 32))) hx hb hrt9 (Or.inl ⟨_, rfl⟩) hlk hS (Nat.le_of_ble_eq_true rfl) (Nat.le_of_ble_eq_true rfl) dX6_slotOf_9 (⟨rfl, rfl⟩)
set_option maxHeartbeats 4000000 in
set_option maxRecDepth 100000 in
theorem c_X6_isThere (l : Launch) {D : va_G} {T : Nat → ClassId} {dE mi : Nat} (hst : l.stackTraces = false) {A : Nat → Prop} {H : Heap} {b0 : Nat} {wo : Option Nat} {tk : Int32} (hX : PX D T b0 H wo tk) {E : mE} (hE : PE D T b0 H E) (x : Int32) : vx_Met l yX6_isThere wsX6_isThere (rmL 1 0 0) (PcE D T dE mi A H [.ref b0, .int x]) (QI A (fun r H1 => H1 = H ∧ r = bI (look E x).isSome)) (XX A (XN)) 0 0 A := by
  refine entry (cc := cX6_isThere) (maxL := 2) (ret := (some .boolean)) (by decide) rfl (Nat.le_of_ble_eq_true rfl) ?_
  intro p e s m args below meth c hx hb hrt9 hml hown hts hlk hnt hnm hev hS ls hl
  have hown : s.vm.findClass RX6 = some m.cls := hown
  have hK := hev.1
  have hl : lv_has ls 2 [(0, .ref b0), (1, .int x)] := hl
  refine lv_aload_n hx hb dX6_isThere_0 rfl (lv_at hl 0 rfl) ?_
  refine lv_iload_n hx hb dX6_isThere_1 rfl (lv_at hl 1 rfl) ?_
  refine k_qp (k_V (As := [.int x]) (rest := []) ⟨hx, hb, hml, hown, hts⟩ hev hS (c_X6_slotOf l hst hX x) (cwV 1 hts gX6_isThere_X6_slotOf rfl rfl rfl (by decide +kernel) ⟨Nat.le_of_ble_eq_true rfl, Nat.le_of_ble_eq_true rfl⟩) (x_recv hK hX.1 rfl) rfl hl.1 (Nat.le_of_ble_eq_true rfl) dX6_isThere_2 (Nat.le_of_ble_eq_true rfl) (Nat.le_of_ble_eq_true rfl)) hS hnt hlk (fun _ _ h _ => h.elim) (Nat.le_of_ble_eq_true rfl) (Nat.le_of_ble_eq_true rfl) (fun rq1_ H1 locs1 hP hz1 hS => ?_)
  refine W.widen (k := 0) (n := 0) (Nat.le_refl _) (Nat.le_refl _) ?_
  obtain ⟨eH, er⟩ := hP
  have eH := eH.symm
  subst eH
  refine x_tov (y := .ref ((ea b0 (x.toBitVec.toNat % 32)))) (by rw [er]; rfl) ?_
  have hm32 : (x.toBitVec.toNat % 32) < 32 := Nat.mod_lt _ (by decide)
  refine lv_iload_n hx hb dX6_isThere_5 rfl (lv_at hl 1 rfl) ?_
  refine k_ip (k_V (As := [.int x]) (rest := []) ⟨hx, hb, hml, hown, hts⟩ hev hS (c_X1_isOf l (hE (x.toBitVec.toNat % 32) hm32).1 x) (cwV 1 hts gX6_isThere_X1_isOf rfl rfl rfl (by decide +kernel) ⟨Nat.le_of_ble_eq_true rfl, Nat.le_of_ble_eq_true rfl⟩) (x_recv hK (hE (x.toBitVec.toNat % 32) hm32).1 rfl) rfl hl.1 (Nat.le_of_ble_eq_true rfl) dX6_isThere_6 (Nat.le_of_ble_eq_true rfl) (Nat.le_of_ble_eq_true rfl)) hS hnt hlk (fun _ _ h _ => h.elim) (Nat.le_of_ble_eq_true rfl) (Nat.le_of_ble_eq_true rfl) (fun rq2_ H2 locs2 hP hz2 hS => ?_)
  refine W.widen (k := 0) (n := 0) (Nat.le_refl _) (Nat.le_refl _) ?_
  obtain ⟨eH, er3⟩ := hP
  have eH := eH.symm
  subst eH
  refine x_top (y := (bI ((look E x).isSome))) (by rw [er3, look_b]) ?_
  exact r_z hx hb hrt9 hlk hS (Nat.le_of_ble_eq_true rfl) (Nat.le_of_ble_eq_true rfl) dX6_isThere_9 (bI_nar _) (⟨rfl, rfl⟩)

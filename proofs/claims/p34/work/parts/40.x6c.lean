/-! the store's entities, at fixed addresses -/
def ea (b k : Nat) : Nat := b + 5 + 3 * k
theorem ea_inj {b k j : Nat} (h : ea b k = ea b j) : k = j := by unfold ea at h; omega
def PEn (D : va_G) (T : Nat → ClassId) (b : Nat) (H : Heap) (E : mE) (k : Nat) : Prop := oc D H (ea b k) 4 [.ref (ea b k + 1), .ref (ea b k + 2), .int (handle E k), .int (bI (mAl E k)), va_rf ((mPar E k).map (ea b)), .int (nI (mKd E k))] ∧ ∃ fv fm : Nat → Int32, ic (T 0) H (ea b k + 1) 6 fv ∧ ic (T 0) H (ea b k + 2) 6 fm ∧ ∀ i, i < 6 → fv i = mVal E k i ∧ fm i = mMk E k i
def PE (D : va_G) (T : Nat → ClassId) (b : Nat) (H : Heap) (E : mE) : Prop := ∀ k, k < 32 → PEn D T b H E k
theorem PE.kept {D : va_G} {T : Nat → ClassId} {b : Nat} {H H1 : Heap} {E : mE} (h : PE D T b H E) (e : ∀ q : Nat, b + 5 ≤ q → q < b + 101 → H1[q]? = H[q]?) : PE D T b H1 E := by
  intro k hk
  obtain ⟨h1, fv, fm, h2, h3, h4⟩ := h k hk
  have hk5 : b + 5 ≤ ea b k ∧ ea b k + 2 < b + 101 := by unfold ea; omega
  exact ⟨h1.kept (e _ (by omega) (by omega)), fv, fm, h2.kept (e _ (by omega) (by omega)), h3.kept (e _ (by omega) (by omega)), h4⟩
theorem o_cases {α : Type} (o : Option α) : o = none ∨ ∃ q, o = some q := by
  cases o with
  | none => exact Or.inl rfl
  | some q => exact Or.inr ⟨q, rfl⟩
theorem omap_none {o : Option Nat} {f : Nat → Nat} (h : o.map f = none) : o = none := by
  cases o with
  | none => rfl
  | some q => cases h
theorem omap_some {o : Option Nat} {f : Nat → Nat} {y : Nat} (h : o.map f = some y) : ∃ q, o = some q ∧ y = f q := by
  cases o with
  | none => cases h
  | some q => exact ⟨q, rfl, (Option.some.inj h).symm⟩
set_option maxRecDepth 100000 in
theorem ta_X6_refuseCircle_189 : ∀ w ∈ (vx_atS RX6 189 "java/lang/IllegalArgumentException" ["java/lang/RuntimeException", "java/lang/Exception"]).filter goodWord, w ∈ wsX6_refuseCircle := by decide +kernel
set_option maxRecDepth 100000 in
theorem in_X6_refuseCircle_RX1 : ∀ w ∈ wsX10, w ∈ wsX6_refuseCircle := by decide +kernel
set_option maxHeartbeats 4000000 in
set_option maxRecDepth 100000 in
theorem c_X6_refuseCircle (l : Launch) {D : va_G} {T : Nat → ClassId} {dE mi : Nat} (hst : l.stackTraces = false) {A : Nat → Prop} {H : Heap} {b0 : Nat} {E : mE} (hE : PE D T b0 H E) (iE : InvE E) {sl : Nat} {o : Option Nat} (hs32 : sl < 32) (hop : ∀ q, o = some q → mAl E q = true) : vx_Met l yX6_refuseCircle wsX6_refuseCircle (rmL 6 1 6) (PcE D T dE mi A H [.ref ((ea b0 sl)), va_rf ((o.map (ea b0)))]) (QV A (fun H1 => H1 = H ∧ ∀ q, o = some q → goesB E q sl = false)) (XX A (XE H (fun E9 => E9 = "java/lang/IllegalArgumentException" ∧ ∃ q, o = some q ∧ goesB E q sl = true))) 1 6 A := by
  refine entry (cc := cX6_refuseCircle) (maxL := 3) (ret := none) (by decide) rfl (by cases o <;> exact Nat.le_of_ble_eq_true rfl) ?_
  intro p e s m args below meth c hx hb hrt9 hml hown hts hlk hnt hnm hev hS ls hl
  have hown : s.vm.findClass RX6 = some m.cls := hown
  have hK := hev.1
  have hl : lv_has ls 3 [(0, .ref ((ea b0 sl))), (1, va_rf ((o.map (ea b0))))] := hl
  obtain ⟨dp, hdp⟩ := iE.2.2.2.2
  rcases o_cases o with ho | ⟨p0, ho⟩
  · refine y_aload_n hx hb dX6_refuseCircle_0 rfl (lv_at hl 1 rfl) ?_
    refine y_astore_n (lv' := [(2, va_rf ((o.map (ea b0)))), (0, .ref ((ea b0 sl))), (1, va_rf ((o.map (ea b0))))]) hx hb dX6_refuseCircle_1 rfl hl (by decide) (by cases o <;> rfl) (fun ls hl => ?_)
    refine y_aload_n hx hb dX6_refuseCircle_2 rfl (lv_at hl 0 rfl) ?_
    refine y_ifnull hx hb (tgt := 29) dX6_refuseCircle_3 (by decide) (fun c3 => ?_) (fun a3 c3 => ?_)
    · exact r_v hx hb hrt9 hlk hS (Nat.le_of_ble_eq_true rfl) (Nat.le_of_ble_eq_true rfl) dX6_refuseCircle_29 (⟨rfl, fun q hq => by rw [ho] at hq; cases hq⟩)
    · exact absurd (congrArg (Option.map (ea b0)) ho) (by rw [c3]; exact fun z => nomatch z)
  · have hp0 := hop p0 ho
    refine y_aload_n hx hb dX6_refuseCircle_0 rfl (lv_at hl 1 rfl) ?_
    refine y_astore_n (lv' := [(2, va_rf ((o.map (ea b0)))), (0, .ref ((ea b0 sl))), (1, va_rf ((o.map (ea b0))))]) hx hb dX6_refuseCircle_1 rfl hl (by decide) (by cases o <;> rfl) (fun ls hl => ?_)
    have loop2 : ∀ (n : Nat) (o9 : Option Nat) (n9 : Nat) (locs9 : List Loc), muO dp o9 < n → (o9 = anc E n9 p0) → (∀ m, m < n9 → anc E m p0 ≠ some sl) → (va_S A s.heap H locs9) → ∀ (ls : Array Slot), lv_has ls 3 [(2, va_rf ((o9.map (ea b0)))), (0, .ref ((ea b0 sl))), (1, va_rf ((o.map (ea b0))))] → W p l e (rmL 6 1 6) s m args below meth c H locs9 (0) (0) (vx_MQ below (QV A (fun H1 => H1 = H ∧ ∀ q, o = some q → goesB E q sl = false)) (XX A (XE H (fun E9 => E9 = "java/lang/IllegalArgumentException" ∧ ∃ q, o = some q ∧ goesB E q sl = true))) args s 1 6 A) (F0 m 2 ls []) := by
      intro n
      induction n with
      | zero => intro o9 n9 locs9 hfuel; exact absurd hfuel (Nat.not_lt_zero _)
      | succ n ih2 =>
        intro o9 n9 locs9 hfuel ho9 hno hS ls hl
        refine y_aload_n hx hb dX6_refuseCircle_2 rfl (lv_at hl 0 rfl) ?_
        refine y_ifnull hx hb (tgt := 29) dX6_refuseCircle_3 (by decide) (fun c3 => ?_) (fun a3 c3 => ?_)
        · have hz9 := omap_none c3
          exact r_v hx hb hrt9 hlk hS (Nat.le_of_ble_eq_true rfl) (Nat.le_of_ble_eq_true rfl) dX6_refuseCircle_29 (⟨rfl, fun q hq => by have eq9 := ho.symm.trans hq; obtain rfl := Option.some.inj eq9; exact goes_f (n := n9) (by rw [← ho9, hz9]) hno⟩)
        · obtain ⟨k9, hk9, hy9⟩ := omap_some c3
          have hal9 := anc_al iE hp0 n9 k9 (by rw [← ho9]; exact hk9)
          have hk32 := iE.2.1 k9 hal9
          refine y_aload_n hx hb dX6_refuseCircle_6 rfl (lv_at hl 0 rfl) ?_
          refine lv_aload_n hx hb dX6_refuseCircle_7 rfl (lv_at hl 1 rfl) ?_
          refine lv_acmp_ne (rx := (o9.map (ea b0))) (ry := (some (ea b0 sl))) (tgt := 21) hx hb dX6_refuseCircle_8 (by decide) (fun c8 => ?_) (fun c8 => ?_)
          · refine y_aload_n hx hb dX6_refuseCircle_21 rfl (lv_at hl 0 rfl) ?_
            refine x_tov (y := .ref ((ea b0 k9))) (by rw [hk9]; rfl) ?_
            have hfu : muO dp (mPar E k9) < dp k9 + 1 := by
              cases q : mPar E k9 with
              | none => exact Nat.succ_pos _
              | some j => exact Nat.succ_lt_succ (hdp k9 j q)
            have hfu2 : muO dp o9 = dp k9 + 1 := by rw [hk9]; rfl
            refine x_getN (C := RX1) (TT := TX1) (N := 6) (ci := 4) (v := va_rf (((mPar E k9).map (ea b0)))) hx hb hts in_X6_refuseCircle_RX1 hown hK ((hE k9 hk32).1) rfl 4 (by decide) (hev.2.2.2.2.1.2 ("Archeloft", 96, "Archeloft$Entity", "parent", "LArcheloft$Entity;") (by decide +kernel)) (fun _ h9 => h9) rfl dX6_refuseCircle_22 ?_
            refine y_astore_n (lv' := [(2, va_rf (((mPar E k9).map (ea b0)))), (0, .ref ((ea b0 sl))), (1, va_rf ((o.map (ea b0))))]) hx hb dX6_refuseCircle_25 rfl hl (by decide) (by cases o <;> rfl) (fun ls hl => ?_)
            refine lv_goto (tgt := 2) hx hb dX6_refuseCircle_26 (by decide) ?_
            exact ih2 (mPar E k9) (n9 + 1) locs9 (by omega) (by show _ = (anc E n9 p0).bind (mPar E); rw [← ho9, hk9]; rfl) (fun m hm => by rcases Nat.lt_succ_iff_lt_or_eq.mp hm with q | q; exact hno m q; rw [q, ← ho9, hk9]; exact fun z => c8 (by rw [hk9, Option.some.inj z]; rfl)) hS ls (lv_sub hl [0, 1, 2] rfl)
          · have eks : k9 = sl := ea_inj (Option.some.inj (show some (ea b0 k9) = some (ea b0 sl) by rw [← c8, hk9]; rfl))
            exact k_thr (cls := "java/lang/IllegalArgumentException") (text := "an entity would go with itself") (ik := 185) (is := 241) (ic := 189) hx hb hst hown hev hS (by decide +kernel) (hts (.classLink RX6 185 "java/lang/IllegalArgumentException") (by decide +kernel)) (hts (.initialized "java/lang/IllegalArgumentException") (by decide +kernel)) (by decide +kernel) (by decide +kernel) (fun w h => hts w (ta_X6_refuseCircle_189 w h)) (by decide +kernel) (by decide +kernel) (hl.1.trans hml.symm) dX6_refuseCircle_11 dX6_refuseCircle_14 dX6_refuseCircle_15 dX6_refuseCircle_17 dX6_refuseCircle_20 hnt (Nat.le_of_ble_eq_true rfl) (Nat.le_of_ble_eq_true rfl) (Nat.le_of_ble_eq_true rfl) (Nat.le_of_ble_eq_true rfl) hlk ((fun H1 h1 h2 => ⟨⟨rfl, p0, ho, goes_t (n := n9) (by rw [← ho9, hk9, eks])⟩, h1, h2⟩)) (Nat.le_of_ble_eq_true rfl) (Nat.le_of_ble_eq_true rfl)
    exact loop2 ((muO dp o) + 1) o 0 [] (Nat.lt_succ_self _) ho (fun m hm => absurd hm (Nat.not_lt_zero m)) hS ls (lv_sub hl [0, 1, 2] rfl)

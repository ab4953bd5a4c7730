/-! calls that are refused: what is thrown becomes a number, nothing else changes -/
theorem RepT.out {D : va_G} {T : Nat → ClassId} {dE b w : Nat} {A : Nat → Prop} {tg : Nat → Nat} {H H1 : Heap} {M : mSt} (h : RepT D T dE b A tg H M) (f : FR tg (fun t => t = w) H H1) (hw : w = 7 ∨ w = 8) : RepT D T dE b A tg H1 M := by
  obtain ⟨y, zq, zy, wo, ⟨a1, a2, a3, a4⟩, h2, h3, h4, h5⟩ := h
  exact ⟨y, zq, zy, wo, ⟨a1.kept f.1, a2.keptF a1 f (by omega) (by omega), a3.keptF a1 f (by omega), a4.kept TX.rf f (fun t (z : t = w) => by omega)⟩, h2.kept TX.rf f (by omega) (by omega) (by omega) (by omega), h3.kept TX.rf f (by omega) (by omega) (by omega) (by omega), h4.kept TX.rf f (by omega) (fun t (z : t = w) => by omega), h5⟩
theorem RepT.tg {D : va_G} {T : Nat → ClassId} {dE b : Nat} {A : Nat → Prop} {tg : Nat → Nat} {H : Heap} {M : mSt} (h : RepT D T dE b A tg H M) : TG A b H tg := by
  obtain ⟨y, zq, zy, wo, h1, -⟩ := h
  exact h1.1
theorem mem1 {E c1 : String} {k : Nat} (h : (E, k) ∈ [(c1, 1)]) : E = c1 ∧ k = 1 := by
  rcases List.mem_cons.mp h with h | h
  · exact ⟨(Prod.mk.inj h).1, (Prod.mk.inj h).2⟩
  · exact (List.not_mem_nil h).elim
theorem mem2 {E c1 c2 : String} {k : Nat} (h : (E, k) ∈ [(c1, 1), (c2, 2)]) : (E = c1 ∧ k = 1) ∨ (E = c2 ∧ k = 2) := by
  rcases List.mem_cons.mp h with h | h
  · exact Or.inl ⟨(Prod.mk.inj h).1, (Prod.mk.inj h).2⟩
  · rcases List.mem_cons.mp h with h | h
    · exact Or.inr ⟨(Prod.mk.inj h).1, (Prod.mk.inj h).2⟩
    · exact (List.not_mem_nil h).elim
theorem mem2' {E c1 c2 : String} {k : Nat} (h : (E, k) ∈ [(c1, 2), (c2, 3)]) : (E = c1 ∧ k = 2) ∨ (E = c2 ∧ k = 3) := by
  rcases List.mem_cons.mp h with h | h
  · exact Or.inl ⟨(Prod.mk.inj h).1, (Prod.mk.inj h).2⟩
  · rcases List.mem_cons.mp h with h | h
    · exact Or.inr ⟨(Prod.mk.inj h).1, (Prod.mk.inj h).2⟩
    · exact (List.not_mem_nil h).elim
theorem mem3 {E c1 c2 c3 : String} {k : Nat} (h : (E, k) ∈ [(c1, 1), (c2, 2), (c3, 3)]) : (E = c1 ∧ k = 1) ∨ (E = c2 ∧ k = 2) ∨ (E = c3 ∧ k = 3) := by
  rcases List.mem_cons.mp h with h | h
  · exact Or.inl ⟨(Prod.mk.inj h).1, (Prod.mk.inj h).2⟩
  · exact Or.inr (mem2' h)
def rfw (K c : Nat) : Nat := match K with
  | 0 => 3
  | 1 => if c = 1 then 1 else 3
  | 7 => 4
  | 8 => 4
  | 9 => if c = 1 then 4 else 3
  | 10 => 3
  | 11 => 3
  | 12 => 3
  | 13 => if c = 1 then 2 else 3
  | _ => c
set_option maxHeartbeats 4000000 in
set_option maxRecDepth 100000 in
theorem c_L_refused0 (l : Launch) {D : va_G} {T : Nat → ClassId} {dE mi : Nat} (hst : l.stackTraces = false) {A : Nat → Prop} {H : Heap} {b0 bd : Nat} {tg : Nat → Nat} {M : mSt} (hR : RepT D T dE b0 A tg H M) (hI : Inv bd M) (x x2 : Int32) (hne : (oMake M).1 ≠ 0) : vx_Met l yL_refused wsL_refused (rmL 10 6 123) (PcE D T dE mi A H [.ref b0, .int (nI 0), .int x, .int x2]) (QI A (fun r H1 => r = nI (rfw 0 (oMake M).1) ∧ KP H H1)) (XX A (XN)) 6 123 A := by
  refine entryH (hh := [(0, 190, 191, 81), (0, 190, 195, 83), (0, 190, 199, 85), (0, 190, 203, 87)]) (cc := cL_refused) (maxL := 5) (ret := (some .int)) (by decide) rfl (Nat.le_of_ble_eq_true rfl) ?_
  intro p e s m args below meth c hx hb hrt9 hml hown hts hlk htb hnm hev hS ls hl
  have hown : s.vm.findClass RL = some m.cls := hown
  have hK := hev.1
  have hl : lv_has ls 5 [(0, .ref b0), (1, .int (nI 0)), (2, .int x), (3, .int x2)] := hl
  obtain ⟨y, zq, zy, wo, hC, hQ, hY, hW, hwo⟩ := id hR
  have hX := hC.2.1
  refine lv_iload_n hx hb dL_refused_0 rfl (lv_at hl 1 rfl) ?_
  refine y_if_ne hx hb (by decide) (tgt := 11) dL_refused_1 (by decide) (fun c1 => ?_) (fun c1 => ?_)
  · exact absurd c1 (by decide)
  · refine lv_aload_n hx hb dL_refused_4 rfl (lv_at hl 0 rfl) ?_
    refine k_i (k_V (As := []) (rest := []) ⟨hx, hb, hml, hown, hts⟩ hev hS (u_make l hst hR hI) (cwV 0 hts gL_refused_X6_make rfl rfl rfl (by decide +kernel) ⟨Nat.le_of_ble_eq_true rfl, Nat.le_of_ble_eq_true rfl⟩) (x_recv hK hX.1 rfl) rfl hl.1 (Nat.le_of_ble_eq_true rfl) dL_refused_5 (Nat.le_of_ble_eq_true rfl) (Nat.le_of_ble_eq_true rfl)) hS (fun E9 ce9 qx Hx locsx hx9 hzx hS h7 h8 h9 => ?_) (fun rq1_ H1 locs1 hP hz1 hS => ?_)
    · obtain ⟨hm9, hk9⟩ := hx9
      obtain ⟨hE, hc9⟩ := mem1 hm9
      · subst hE
        refine vx_catch (own := RL) (name := "java/lang/IllegalStateException") (E := "java/lang/IllegalStateException") hown (tableOf [(0, 190, 191, 81), (0, 190, 195, 83)]) ⟨0, 190, 199, 85⟩ (tableOf [(0, 190, 203, 87)]) (htb.trans rfl) (PsR.cs (PsR.on (nm := "java/util/NoSuchElementException") (by decide) (hts (.classLink RL 81 "java/util/NoSuchElementException") (by decide +kernel)) (hev.2.2.2.2.1.1.1 ("java/lang/IllegalStateException", "java/util/NoSuchElementException") (by decide +kernel))) (PsR.cs (PsR.on (nm := "java/lang/IllegalArgumentException") (by decide) (hts (.classLink RL 83 "java/lang/IllegalArgumentException") (by decide +kernel)) (hev.2.2.2.2.1.1.1 ("java/lang/IllegalStateException", "java/lang/IllegalArgumentException") (by decide +kernel))) PsR.nl)) (by decide) (by decide) (hts (.classLink RL 85 "java/lang/IllegalStateException") (by decide +kernel)) (va_Nw.use rfl (hev.2.2.2.1 ("java/lang/IllegalStateException", "java/lang/IllegalStateException") (by decide +kernel))) h7 h8 h9 ?_
        refine lv_astore (lv' := [(4, .ref qx), (0, .ref b0), (1, .int (nI 0)), (2, .int x), (3, .int x2)]) hx hb dL_refused_199 hl (by decide) rfl (fun ls hl => ?_)
        refine lv_iconst (v := nI 3) hx hb dL_refused_201 (by decide) ?_
        exact r_i hx hb hrt9 hlk hS (Nat.le_of_ble_eq_true rfl) (Nat.le_of_ble_eq_true rfl) dL_refused_202 (⟨by rw [hc9]; rfl, hk9⟩)
    -- on
    exact absurd hP.1 hne
set_option maxHeartbeats 4000000 in
set_option maxRecDepth 100000 in
theorem c_L_refused1 (l : Launch) {D : va_G} {T : Nat → ClassId} {dE mi : Nat} (hst : l.stackTraces = false) {A : Nat → Prop} {H : Heap} {b0 bd : Nat} {tg : Nat → Nat} {M : mSt} (hR : RepT D T dE b0 A tg H M) (hI : Inv bd M) (x x2 : Int32) (hne : (oEnd M x).1 ≠ 0) : vx_Met l yL_refused wsL_refused (rmL 10 7 95) (PcE D T dE mi A H [.ref b0, .int (nI 1), .int x, .int x2]) (QI A (fun r H1 => r = nI (rfw 1 (oEnd M x).1) ∧ KP H H1)) (XX A (XN)) 7 95 A := by
  refine entryH (hh := [(0, 190, 191, 81), (0, 190, 195, 83), (0, 190, 199, 85), (0, 190, 203, 87)]) (cc := cL_refused) (maxL := 5) (ret := (some .int)) (by decide) rfl (Nat.le_of_ble_eq_true rfl) ?_
  intro p e s m args below meth c hx hb hrt9 hml hown hts hlk htb hnm hev hS ls hl
  have hown : s.vm.findClass RL = some m.cls := hown
  have hK := hev.1
  have hl : lv_has ls 5 [(0, .ref b0), (1, .int (nI 1)), (2, .int x), (3, .int x2)] := hl
  obtain ⟨y, zq, zy, wo, hC, hQ, hY, hW, hwo⟩ := id hR
  have hX := hC.2.1
  refine lv_iload_n hx hb dL_refused_0 rfl (lv_at hl 1 rfl) ?_
  refine y_if_ne hx hb (by decide) (tgt := 11) dL_refused_1 (by decide) (fun c1 => ?_) (fun c1 => ?_)
  · refine lv_iload_n hx hb dL_refused_11 rfl (lv_at hl 1 rfl) ?_
    refine lv_iconst (v := nI 1) hx hb dL_refused_12 (by decide) ?_
    refine y_icmp_ne hx hb (by decide) (by decide) (tgt := 24) dL_refused_13 (by decide) (fun c13 => ?_) (fun c13 => ?_)
    · exact absurd c13 (by decide)
    · refine lv_aload_n hx hb dL_refused_16 rfl (lv_at hl 0 rfl) ?_
      refine lv_iload_n hx hb dL_refused_17 rfl (lv_at hl 2 rfl) ?_
      refine k_i (k_V (As := [.int x]) (rest := []) ⟨hx, hb, hml, hown, hts⟩ hev hS (u_end l hst hR hI x) (cwV 1 hts gL_refused_X6_end rfl rfl rfl (by decide +kernel) ⟨Nat.le_of_ble_eq_true rfl, Nat.le_of_ble_eq_true rfl⟩) (x_recv hK hX.1 rfl) rfl hl.1 (Nat.le_of_ble_eq_true rfl) dL_refused_18 (Nat.le_of_ble_eq_true rfl) (Nat.le_of_ble_eq_true rfl)) hS (fun E9 ce9 qx Hx locsx hx9 hzx hS h7 h8 h9 => ?_) (fun rq1_ H1 locs1 hP hz1 hS => ?_)
      · obtain ⟨hm9, hk9⟩ := hx9
        rcases mem2 hm9 with ⟨hE, hc9⟩ | ⟨hE, hc9⟩
        · subst hE
          refine vx_catch (own := RL) (name := "java/util/NoSuchElementException") (E := "java/util/NoSuchElementException") hown (tableOf []) ⟨0, 190, 191, 81⟩ (tableOf [(0, 190, 195, 83), (0, 190, 199, 85), (0, 190, 203, 87)]) (htb.trans rfl) PsR.nl (by decide) (by decide) (hts (.classLink RL 81 "java/util/NoSuchElementException") (by decide +kernel)) (va_Nw.use rfl (hev.2.2.2.1 ("java/util/NoSuchElementException", "java/util/NoSuchElementException") (by decide +kernel))) h7 h8 h9 ?_
          refine lv_astore (lv' := [(4, .ref qx), (0, .ref b0), (1, .int (nI 1)), (2, .int x), (3, .int x2)]) hx hb dL_refused_191 hl (by decide) rfl (fun ls hl => ?_)
          refine lv_iconst (v := nI 1) hx hb dL_refused_193 (by decide) ?_
          exact r_i hx hb hrt9 hlk hS (Nat.le_of_ble_eq_true rfl) (Nat.le_of_ble_eq_true rfl) dL_refused_194 (⟨by rw [hc9]; rfl, hk9⟩)
        · subst hE
          refine vx_catch (own := RL) (name := "java/lang/IllegalStateException") (E := "java/lang/IllegalStateException") hown (tableOf [(0, 190, 191, 81), (0, 190, 195, 83)]) ⟨0, 190, 199, 85⟩ (tableOf [(0, 190, 203, 87)]) (htb.trans rfl) (PsR.cs (PsR.on (nm := "java/util/NoSuchElementException") (by decide) (hts (.classLink RL 81 "java/util/NoSuchElementException") (by decide +kernel)) (hev.2.2.2.2.1.1.1 ("java/lang/IllegalStateException", "java/util/NoSuchElementException") (by decide +kernel))) (PsR.cs (PsR.on (nm := "java/lang/IllegalArgumentException") (by decide) (hts (.classLink RL 83 "java/lang/IllegalArgumentException") (by decide +kernel)) (hev.2.2.2.2.1.1.1 ("java/lang/IllegalStateException", "java/lang/IllegalArgumentException") (by decide +kernel))) PsR.nl)) (by decide) (by decide) (hts (.classLink RL 85 "java/lang/IllegalStateException") (by decide +kernel)) (va_Nw.use rfl (hev.2.2.2.1 ("java/lang/IllegalStateException", "java/lang/IllegalStateException") (by decide +kernel))) h7 h8 h9 ?_
          refine lv_astore (lv' := [(4, .ref qx), (0, .ref b0), (1, .int (nI 1)), (2, .int x), (3, .int x2)]) hx hb dL_refused_199 hl (by decide) rfl (fun ls hl => ?_)
          refine lv_iconst (v := nI 3) hx hb dL_refused_201 (by decide) ?_
          exact r_i hx hb hrt9 hlk hS (Nat.le_of_ble_eq_true rfl) (Nat.le_of_ble_eq_true rfl) dL_refused_202 (⟨by rw [hc9]; rfl, hk9⟩)
      -- on
      exact absurd hP.1 hne
  · exact absurd c1 (by decide)
set_option maxHeartbeats 4000000 in
set_option maxRecDepth 100000 in
theorem c_L_refused2 (l : Launch) {D : va_G} {T : Nat → ClassId} {dE mi : Nat} (hst : l.stackTraces = false) {A : Nat → Prop} {H : Heap} {b0 bd : Nat} {tg : Nat → Nat} {M : mSt} (hR : RepT D T dE b0 A tg H M) (hI : Inv bd M) (x x2 : Int32) (hne : (oAdopt M x x2).1 ≠ 0) : vx_Met l yL_refused wsL_refused (rmL 8 4 24) (PcE D T dE mi A H [.ref b0, .int (nI 2), .int x, .int x2]) (QI A (fun r H1 => r = nI (rfw 2 (oAdopt M x x2).1) ∧ KP H H1)) (XX A (XN)) 4 24 A := by
  refine entryH (hh := [(0, 190, 191, 81), (0, 190, 195, 83), (0, 190, 199, 85), (0, 190, 203, 87)]) (cc := cL_refused) (maxL := 5) (ret := (some .int)) (by decide) rfl (Nat.le_of_ble_eq_true rfl) ?_
  intro p e s m args below meth c hx hb hrt9 hml hown hts hlk htb hnm hev hS ls hl
  have hown : s.vm.findClass RL = some m.cls := hown
  have hK := hev.1
  have hl : lv_has ls 5 [(0, .ref b0), (1, .int (nI 2)), (2, .int x), (3, .int x2)] := hl
  obtain ⟨y, zq, zy, wo, hC, hQ, hY, hW, hwo⟩ := id hR
  have hX := hC.2.1
  refine lv_iload_n hx hb dL_refused_0 rfl (lv_at hl 1 rfl) ?_
  refine y_if_ne hx hb (by decide) (tgt := 11) dL_refused_1 (by decide) (fun c1 => ?_) (fun c1 => ?_)
  · refine lv_iload_n hx hb dL_refused_11 rfl (lv_at hl 1 rfl) ?_
    refine lv_iconst (v := nI 1) hx hb dL_refused_12 (by decide) ?_
    refine y_icmp_ne hx hb (by decide) (by decide) (tgt := 24) dL_refused_13 (by decide) (fun c13 => ?_) (fun c13 => ?_)
    · refine lv_iload_n hx hb dL_refused_24 rfl (lv_at hl 1 rfl) ?_
      refine lv_iconst (v := nI 2) hx hb dL_refused_25 (by decide) ?_
      refine y_icmp_ne hx hb (by decide) (by decide) (tgt := 38) dL_refused_26 (by decide) (fun c26 => ?_) (fun c26 => ?_)
      · exact absurd c26 (by decide)
      · refine lv_aload_n hx hb dL_refused_29 rfl (lv_at hl 0 rfl) ?_
        refine lv_iload_n hx hb dL_refused_30 rfl (lv_at hl 2 rfl) ?_
        refine lv_iload_n hx hb dL_refused_31 rfl (lv_at hl 3 rfl) ?_
        refine k_i (k_V (As := [.int x, .int x2]) (rest := []) ⟨hx, hb, hml, hown, hts⟩ hev hS (u_adopt l hst hR hI x x2) (cwV 2 hts gL_refused_X6_adopt rfl rfl rfl (by decide +kernel) ⟨Nat.le_of_ble_eq_true rfl, Nat.le_of_ble_eq_true rfl⟩) (x_recv hK hX.1 rfl) rfl hl.1 (Nat.le_of_ble_eq_true rfl) dL_refused_32 (Nat.le_of_ble_eq_true rfl) (Nat.le_of_ble_eq_true rfl)) hS (fun E9 ce9 qx Hx locsx hx9 hzx hS h7 h8 h9 => ?_) (fun rq1_ H1 locs1 hP hz1 hS => ?_)
        · obtain ⟨hm9, hk9⟩ := hx9
          rcases mem3 hm9 with ⟨hE, hc9⟩ | ⟨hE, hc9⟩ | ⟨hE, hc9⟩
          · subst hE
            refine vx_catch (own := RL) (name := "java/util/NoSuchElementException") (E := "java/util/NoSuchElementException") hown (tableOf []) ⟨0, 190, 191, 81⟩ (tableOf [(0, 190, 195, 83), (0, 190, 199, 85), (0, 190, 203, 87)]) (htb.trans rfl) PsR.nl (by decide) (by decide) (hts (.classLink RL 81 "java/util/NoSuchElementException") (by decide +kernel)) (va_Nw.use rfl (hev.2.2.2.1 ("java/util/NoSuchElementException", "java/util/NoSuchElementException") (by decide +kernel))) h7 h8 h9 ?_
            refine lv_astore (lv' := [(4, .ref qx), (0, .ref b0), (1, .int (nI 2)), (2, .int x), (3, .int x2)]) hx hb dL_refused_191 hl (by decide) rfl (fun ls hl => ?_)
            refine lv_iconst (v := nI 1) hx hb dL_refused_193 (by decide) ?_
            exact r_i hx hb hrt9 hlk hS (Nat.le_of_ble_eq_true rfl) (Nat.le_of_ble_eq_true rfl) dL_refused_194 (⟨by rw [hc9]; rfl, hk9⟩)
          · subst hE
            refine vx_catch (own := RL) (name := "java/lang/IllegalArgumentException") (E := "java/lang/IllegalArgumentException") hown (tableOf [(0, 190, 191, 81)]) ⟨0, 190, 195, 83⟩ (tableOf [(0, 190, 199, 85), (0, 190, 203, 87)]) (htb.trans rfl) (PsR.cs (PsR.on (nm := "java/util/NoSuchElementException") (by decide) (hts (.classLink RL 81 "java/util/NoSuchElementException") (by decide +kernel)) (hev.2.2.2.2.1.1.1 ("java/lang/IllegalArgumentException", "java/util/NoSuchElementException") (by decide +kernel))) PsR.nl) (by decide) (by decide) (hts (.classLink RL 83 "java/lang/IllegalArgumentException") (by decide +kernel)) (va_Nw.use rfl (hev.2.2.2.1 ("java/lang/IllegalArgumentException", "java/lang/IllegalArgumentException") (by decide +kernel))) h7 h8 h9 ?_
            refine lv_astore (lv' := [(4, .ref qx), (0, .ref b0), (1, .int (nI 2)), (2, .int x), (3, .int x2)]) hx hb dL_refused_195 hl (by decide) rfl (fun ls hl => ?_)
            refine lv_iconst (v := nI 2) hx hb dL_refused_197 (by decide) ?_
            exact r_i hx hb hrt9 hlk hS (Nat.le_of_ble_eq_true rfl) (Nat.le_of_ble_eq_true rfl) dL_refused_198 (⟨by rw [hc9]; rfl, hk9⟩)
          · subst hE
            refine vx_catch (own := RL) (name := "java/lang/IllegalStateException") (E := "java/lang/IllegalStateException") hown (tableOf [(0, 190, 191, 81), (0, 190, 195, 83)]) ⟨0, 190, 199, 85⟩ (tableOf [(0, 190, 203, 87)]) (htb.trans rfl) (PsR.cs (PsR.on (nm := "java/util/NoSuchElementException") (by decide) (hts (.classLink RL 81 "java/util/NoSuchElementException") (by decide +kernel)) (hev.2.2.2.2.1.1.1 ("java/lang/IllegalStateException", "java/util/NoSuchElementException") (by decide +kernel))) (PsR.cs (PsR.on (nm := "java/lang/IllegalArgumentException") (by decide) (hts (.classLink RL 83 "java/lang/IllegalArgumentException") (by decide +kernel)) (hev.2.2.2.2.1.1.1 ("java/lang/IllegalStateException", "java/lang/IllegalArgumentException") (by decide +kernel))) PsR.nl)) (by decide) (by decide) (hts (.classLink RL 85 "java/lang/IllegalStateException") (by decide +kernel)) (va_Nw.use rfl (hev.2.2.2.1 ("java/lang/IllegalStateException", "java/lang/IllegalStateException") (by decide +kernel))) h7 h8 h9 ?_
            refine lv_astore (lv' := [(4, .ref qx), (0, .ref b0), (1, .int (nI 2)), (2, .int x), (3, .int x2)]) hx hb dL_refused_199 hl (by decide) rfl (fun ls hl => ?_)
            refine lv_iconst (v := nI 3) hx hb dL_refused_201 (by decide) ?_
            exact r_i hx hb hrt9 hlk hS (Nat.le_of_ble_eq_true rfl) (Nat.le_of_ble_eq_true rfl) dL_refused_202 (⟨by rw [hc9]; rfl, hk9⟩)
        -- on
        exact absurd hP.1 hne
    · exact absurd c13 (by decide)
  · exact absurd c1 (by decide)
set_option maxHeartbeats 4000000 in
set_option maxRecDepth 100000 in
theorem c_L_refused3 (l : Launch) {D : va_G} {T : Nat → ClassId} {dE mi : Nat} (hst : l.stackTraces = false) {A : Nat → Prop} {H : Heap} {b0 bd : Nat} {tg : Nat → Nat} {M : mSt} (hR : RepT D T dE b0 A tg H M) (hI : Inv bd M) (x x2 : Int32) (hne : (oAdd M x x2 (nI 5)).1 ≠ 0) : vx_Met l yL_refused wsL_refused (rmL 11 7 129) (PcE D T dE mi A H [.ref b0, .int (nI 3), .int x, .int x2]) (QI A (fun r H1 => r = nI (rfw 3 (oAdd M x x2 (nI 5)).1) ∧ KP H H1)) (XX A (XN)) 7 129 A := by
  refine entryH (hh := [(0, 190, 191, 81), (0, 190, 195, 83), (0, 190, 199, 85), (0, 190, 203, 87)]) (cc := cL_refused) (maxL := 5) (ret := (some .int)) (by decide) rfl (Nat.le_of_ble_eq_true rfl) ?_
  intro p e s m args below meth c hx hb hrt9 hml hown hts hlk htb hnm hev hS ls hl
  have hown : s.vm.findClass RL = some m.cls := hown
  have hK := hev.1
  have hl : lv_has ls 5 [(0, .ref b0), (1, .int (nI 3)), (2, .int x), (3, .int x2)] := hl
  obtain ⟨y, zq, zy, wo, hC, hQ, hY, hW, hwo⟩ := id hR
  have hX := hC.2.1
  refine lv_iload_n hx hb dL_refused_0 rfl (lv_at hl 1 rfl) ?_
  refine y_if_ne hx hb (by decide) (tgt := 11) dL_refused_1 (by decide) (fun c1 => ?_) (fun c1 => ?_)
  · refine lv_iload_n hx hb dL_refused_11 rfl (lv_at hl 1 rfl) ?_
    refine lv_iconst (v := nI 1) hx hb dL_refused_12 (by decide) ?_
    refine y_icmp_ne hx hb (by decide) (by decide) (tgt := 24) dL_refused_13 (by decide) (fun c13 => ?_) (fun c13 => ?_)
    · refine lv_iload_n hx hb dL_refused_24 rfl (lv_at hl 1 rfl) ?_
      refine lv_iconst (v := nI 2) hx hb dL_refused_25 (by decide) ?_
      refine y_icmp_ne hx hb (by decide) (by decide) (tgt := 38) dL_refused_26 (by decide) (fun c26 => ?_) (fun c26 => ?_)
      · refine lv_iload_n hx hb dL_refused_38 rfl (lv_at hl 1 rfl) ?_
        refine lv_iconst (v := nI 3) hx hb dL_refused_39 (by decide) ?_
        refine y_icmp_ne hx hb (by decide) (by decide) (tgt := 53) dL_refused_40 (by decide) (fun c40 => ?_) (fun c40 => ?_)
        · exact absurd c40 (by decide)
        · refine lv_aload_n hx hb dL_refused_43 rfl (lv_at hl 0 rfl) ?_
          refine lv_iload_n hx hb dL_refused_44 rfl (lv_at hl 2 rfl) ?_
          refine lv_iload_n hx hb dL_refused_45 rfl (lv_at hl 3 rfl) ?_
          refine lv_iconst (v := nI 5) hx hb dL_refused_46 (by decide) ?_
          refine k_i (k_V (As := [.int x, .int x2, .int (nI 5)]) (rest := []) ⟨hx, hb, hml, hown, hts⟩ hev hS (u_add l hst hR hI x x2 (nI 5)) (cwV 3 hts gL_refused_X6_add rfl rfl rfl (by decide +kernel) ⟨Nat.le_of_ble_eq_true rfl, Nat.le_of_ble_eq_true rfl⟩) (x_recv hK hX.1 rfl) rfl hl.1 (Nat.le_of_ble_eq_true rfl) dL_refused_47 (Nat.le_of_ble_eq_true rfl) (Nat.le_of_ble_eq_true rfl)) hS (fun E9 ce9 qx Hx locsx hx9 hzx hS h7 h8 h9 => ?_) (fun rq1_ H1 locs1 hP hz1 hS => ?_)
          · obtain ⟨hm9, hk9⟩ := hx9
            rcases mem3 hm9 with ⟨hE, hc9⟩ | ⟨hE, hc9⟩ | ⟨hE, hc9⟩
            · subst hE
              refine vx_catch (own := RL) (name := "java/util/NoSuchElementException") (E := "java/util/NoSuchElementException") hown (tableOf []) ⟨0, 190, 191, 81⟩ (tableOf [(0, 190, 195, 83), (0, 190, 199, 85), (0, 190, 203, 87)]) (htb.trans rfl) PsR.nl (by decide) (by decide) (hts (.classLink RL 81 "java/util/NoSuchElementException") (by decide +kernel)) (va_Nw.use rfl (hev.2.2.2.1 ("java/util/NoSuchElementException", "java/util/NoSuchElementException") (by decide +kernel))) h7 h8 h9 ?_
              refine lv_astore (lv' := [(4, .ref qx), (0, .ref b0), (1, .int (nI 3)), (2, .int x), (3, .int x2)]) hx hb dL_refused_191 hl (by decide) rfl (fun ls hl => ?_)
              refine lv_iconst (v := nI 1) hx hb dL_refused_193 (by decide) ?_
              exact r_i hx hb hrt9 hlk hS (Nat.le_of_ble_eq_true rfl) (Nat.le_of_ble_eq_true rfl) dL_refused_194 (⟨by rw [hc9]; rfl, hk9⟩)
            · subst hE
              refine vx_catch (own := RL) (name := "java/lang/IllegalArgumentException") (E := "java/lang/IllegalArgumentException") hown (tableOf [(0, 190, 191, 81)]) ⟨0, 190, 195, 83⟩ (tableOf [(0, 190, 199, 85), (0, 190, 203, 87)]) (htb.trans rfl) (PsR.cs (PsR.on (nm := "java/util/NoSuchElementException") (by decide) (hts (.classLink RL 81 "java/util/NoSuchElementException") (by decide +kernel)) (hev.2.2.2.2.1.1.1 ("java/lang/IllegalArgumentException", "java/util/NoSuchElementException") (by decide +kernel))) PsR.nl) (by decide) (by decide) (hts (.classLink RL 83 "java/lang/IllegalArgumentException") (by decide +kernel)) (va_Nw.use rfl (hev.2.2.2.1 ("java/lang/IllegalArgumentException", "java/lang/IllegalArgumentException") (by decide +kernel))) h7 h8 h9 ?_
              refine lv_astore (lv' := [(4, .ref qx), (0, .ref b0), (1, .int (nI 3)), (2, .int x), (3, .int x2)]) hx hb dL_refused_195 hl (by decide) rfl (fun ls hl => ?_)
              refine lv_iconst (v := nI 2) hx hb dL_refused_197 (by decide) ?_
              exact r_i hx hb hrt9 hlk hS (Nat.le_of_ble_eq_true rfl) (Nat.le_of_ble_eq_true rfl) dL_refused_198 (⟨by rw [hc9]; rfl, hk9⟩)
            · subst hE
              refine vx_catch (own := RL) (name := "java/lang/IllegalStateException") (E := "java/lang/IllegalStateException") hown (tableOf [(0, 190, 191, 81), (0, 190, 195, 83)]) ⟨0, 190, 199, 85⟩ (tableOf [(0, 190, 203, 87)]) (htb.trans rfl) (PsR.cs (PsR.on (nm := "java/util/NoSuchElementException") (by decide) (hts (.classLink RL 81 "java/util/NoSuchElementException") (by decide +kernel)) (hev.2.2.2.2.1.1.1 ("java/lang/IllegalStateException", "java/util/NoSuchElementException") (by decide +kernel))) (PsR.cs (PsR.on (nm := "java/lang/IllegalArgumentException") (by decide) (hts (.classLink RL 83 "java/lang/IllegalArgumentException") (by decide +kernel)) (hev.2.2.2.2.1.1.1 ("java/lang/IllegalStateException", "java/lang/IllegalArgumentException") (by decide +kernel))) PsR.nl)) (by decide) (by decide) (hts (.classLink RL 85 "java/lang/IllegalStateException") (by decide +kernel)) (va_Nw.use rfl (hev.2.2.2.1 ("java/lang/IllegalStateException", "java/lang/IllegalStateException") (by decide +kernel))) h7 h8 h9 ?_
              refine lv_astore (lv' := [(4, .ref qx), (0, .ref b0), (1, .int (nI 3)), (2, .int x), (3, .int x2)]) hx hb dL_refused_199 hl (by decide) rfl (fun ls hl => ?_)
              refine lv_iconst (v := nI 3) hx hb dL_refused_201 (by decide) ?_
              exact r_i hx hb hrt9 hlk hS (Nat.le_of_ble_eq_true rfl) (Nat.le_of_ble_eq_true rfl) dL_refused_202 (⟨by rw [hc9]; rfl, hk9⟩)
          -- on
          exact absurd hP.1 hne
      · exact absurd c26 (by decide)
    · exact absurd c13 (by decide)
  · exact absurd c1 (by decide)
set_option maxHeartbeats 4000000 in
set_option maxRecDepth 100000 in
theorem c_L_refused4 (l : Launch) {D : va_G} {T : Nat → ClassId} {dE mi : Nat} (hst : l.stackTraces = false) {A : Nat → Prop} {H : Heap} {b0 bd : Nat} {tg : Nat → Nat} {M : mSt} (hR : RepT D T dE b0 A tg H M) (hI : Inv bd M) (x x2 : Int32) (hne : (oTake M x x2).1 ≠ 0) : vx_Met l yL_refused wsL_refused (rmL 11 8 135) (PcE D T dE mi A H [.ref b0, .int (nI 4), .int x, .int x2]) (QI A (fun r H1 => r = nI (rfw 4 (oTake M x x2).1) ∧ KP H H1)) (XX A (XN)) 8 135 A := by
  refine entryH (hh := [(0, 190, 191, 81), (0, 190, 195, 83), (0, 190, 199, 85), (0, 190, 203, 87)]) (cc := cL_refused) (maxL := 5) (ret := (some .int)) (by decide) rfl (Nat.le_of_ble_eq_true rfl) ?_
  intro p e s m args below meth c hx hb hrt9 hml hown hts hlk htb hnm hev hS ls hl
  have hown : s.vm.findClass RL = some m.cls := hown
  have hK := hev.1
  have hl : lv_has ls 5 [(0, .ref b0), (1, .int (nI 4)), (2, .int x), (3, .int x2)] := hl
  obtain ⟨y, zq, zy, wo, hC, hQ, hY, hW, hwo⟩ := id hR
  have hX := hC.2.1
  refine lv_iload_n hx hb dL_refused_0 rfl (lv_at hl 1 rfl) ?_
  refine y_if_ne hx hb (by decide) (tgt := 11) dL_refused_1 (by decide) (fun c1 => ?_) (fun c1 => ?_)
  · refine lv_iload_n hx hb dL_refused_11 rfl (lv_at hl 1 rfl) ?_
    refine lv_iconst (v := nI 1) hx hb dL_refused_12 (by decide) ?_
    refine y_icmp_ne hx hb (by decide) (by decide) (tgt := 24) dL_refused_13 (by decide) (fun c13 => ?_) (fun c13 => ?_)
    · refine lv_iload_n hx hb dL_refused_24 rfl (lv_at hl 1 rfl) ?_
      refine lv_iconst (v := nI 2) hx hb dL_refused_25 (by decide) ?_
      refine y_icmp_ne hx hb (by decide) (by decide) (tgt := 38) dL_refused_26 (by decide) (fun c26 => ?_) (fun c26 => ?_)
      · refine lv_iload_n hx hb dL_refused_38 rfl (lv_at hl 1 rfl) ?_
        refine lv_iconst (v := nI 3) hx hb dL_refused_39 (by decide) ?_
        refine y_icmp_ne hx hb (by decide) (by decide) (tgt := 53) dL_refused_40 (by decide) (fun c40 => ?_) (fun c40 => ?_)
        · refine lv_iload_n hx hb dL_refused_53 rfl (lv_at hl 1 rfl) ?_
          refine lv_iconst (v := nI 4) hx hb dL_refused_54 (by decide) ?_
          refine y_icmp_ne hx hb (by decide) (by decide) (tgt := 67) dL_refused_55 (by decide) (fun c55 => ?_) (fun c55 => ?_)
          · exact absurd c55 (by decide)
          · refine lv_aload_n hx hb dL_refused_58 rfl (lv_at hl 0 rfl) ?_
            refine lv_iload_n hx hb dL_refused_59 rfl (lv_at hl 2 rfl) ?_
            refine lv_iload_n hx hb dL_refused_60 rfl (lv_at hl 3 rfl) ?_
            refine k_i (k_V (As := [.int x, .int x2]) (rest := []) ⟨hx, hb, hml, hown, hts⟩ hev hS (u_take l hst hR hI x x2) (cwV 2 hts gL_refused_X6_take rfl rfl rfl (by decide +kernel) ⟨Nat.le_of_ble_eq_true rfl, Nat.le_of_ble_eq_true rfl⟩) (x_recv hK hX.1 rfl) rfl hl.1 (Nat.le_of_ble_eq_true rfl) dL_refused_61 (Nat.le_of_ble_eq_true rfl) (Nat.le_of_ble_eq_true rfl)) hS (fun E9 ce9 qx Hx locsx hx9 hzx hS h7 h8 h9 => ?_) (fun rq1_ H1 locs1 hP hz1 hS => ?_)
            · obtain ⟨hm9, hk9⟩ := hx9
              rcases mem3 hm9 with ⟨hE, hc9⟩ | ⟨hE, hc9⟩ | ⟨hE, hc9⟩
              · subst hE
                refine vx_catch (own := RL) (name := "java/util/NoSuchElementException") (E := "java/util/NoSuchElementException") hown (tableOf []) ⟨0, 190, 191, 81⟩ (tableOf [(0, 190, 195, 83), (0, 190, 199, 85), (0, 190, 203, 87)]) (htb.trans rfl) PsR.nl (by decide) (by decide) (hts (.classLink RL 81 "java/util/NoSuchElementException") (by decide +kernel)) (va_Nw.use rfl (hev.2.2.2.1 ("java/util/NoSuchElementException", "java/util/NoSuchElementException") (by decide +kernel))) h7 h8 h9 ?_
                refine lv_astore (lv' := [(4, .ref qx), (0, .ref b0), (1, .int (nI 4)), (2, .int x), (3, .int x2)]) hx hb dL_refused_191 hl (by decide) rfl (fun ls hl => ?_)
                refine lv_iconst (v := nI 1) hx hb dL_refused_193 (by decide) ?_
                exact r_i hx hb hrt9 hlk hS (Nat.le_of_ble_eq_true rfl) (Nat.le_of_ble_eq_true rfl) dL_refused_194 (⟨by rw [hc9]; rfl, hk9⟩)
              · subst hE
                refine vx_catch (own := RL) (name := "java/lang/IllegalArgumentException") (E := "java/lang/IllegalArgumentException") hown (tableOf [(0, 190, 191, 81)]) ⟨0, 190, 195, 83⟩ (tableOf [(0, 190, 199, 85), (0, 190, 203, 87)]) (htb.trans rfl) (PsR.cs (PsR.on (nm := "java/util/NoSuchElementException") (by decide) (hts (.classLink RL 81 "java/util/NoSuchElementException") (by decide +kernel)) (hev.2.2.2.2.1.1.1 ("java/lang/IllegalArgumentException", "java/util/NoSuchElementException") (by decide +kernel))) PsR.nl) (by decide) (by decide) (hts (.classLink RL 83 "java/lang/IllegalArgumentException") (by decide +kernel)) (va_Nw.use rfl (hev.2.2.2.1 ("java/lang/IllegalArgumentException", "java/lang/IllegalArgumentException") (by decide +kernel))) h7 h8 h9 ?_
                refine lv_astore (lv' := [(4, .ref qx), (0, .ref b0), (1, .int (nI 4)), (2, .int x), (3, .int x2)]) hx hb dL_refused_195 hl (by decide) rfl (fun ls hl => ?_)
                refine lv_iconst (v := nI 2) hx hb dL_refused_197 (by decide) ?_
                exact r_i hx hb hrt9 hlk hS (Nat.le_of_ble_eq_true rfl) (Nat.le_of_ble_eq_true rfl) dL_refused_198 (⟨by rw [hc9]; rfl, hk9⟩)
              · subst hE
                refine vx_catch (own := RL) (name := "java/lang/IllegalStateException") (E := "java/lang/IllegalStateException") hown (tableOf [(0, 190, 191, 81), (0, 190, 195, 83)]) ⟨0, 190, 199, 85⟩ (tableOf [(0, 190, 203, 87)]) (htb.trans rfl) (PsR.cs (PsR.on (nm := "java/util/NoSuchElementException") (by decide) (hts (.classLink RL 81 "java/util/NoSuchElementException") (by decide +kernel)) (hev.2.2.2.2.1.1.1 ("java/lang/IllegalStateException", "java/util/NoSuchElementException") (by decide +kernel))) (PsR.cs (PsR.on (nm := "java/lang/IllegalArgumentException") (by decide) (hts (.classLink RL 83 "java/lang/IllegalArgumentException") (by decide +kernel)) (hev.2.2.2.2.1.1.1 ("java/lang/IllegalStateException", "java/lang/IllegalArgumentException") (by decide +kernel))) PsR.nl)) (by decide) (by decide) (hts (.classLink RL 85 "java/lang/IllegalStateException") (by decide +kernel)) (va_Nw.use rfl (hev.2.2.2.1 ("java/lang/IllegalStateException", "java/lang/IllegalStateException") (by decide +kernel))) h7 h8 h9 ?_
                refine lv_astore (lv' := [(4, .ref qx), (0, .ref b0), (1, .int (nI 4)), (2, .int x), (3, .int x2)]) hx hb dL_refused_199 hl (by decide) rfl (fun ls hl => ?_)
                refine lv_iconst (v := nI 3) hx hb dL_refused_201 (by decide) ?_
                exact r_i hx hb hrt9 hlk hS (Nat.le_of_ble_eq_true rfl) (Nat.le_of_ble_eq_true rfl) dL_refused_202 (⟨by rw [hc9]; rfl, hk9⟩)
            -- on
            exact absurd hP.1 hne
        · exact absurd c40 (by decide)
      · exact absurd c26 (by decide)
    · exact absurd c13 (by decide)
  · exact absurd c1 (by decide)
set_option maxHeartbeats 4000000 in
set_option maxRecDepth 100000 in
theorem c_L_refused5 (l : Launch) {D : va_G} {T : Nat → ClassId} {dE mi : Nat} (hst : l.stackTraces = false) {A : Nat → Prop} {H : Heap} {b0 bd : Nat} {tg : Nat → Nat} {M : mSt} (hR : RepT D T dE b0 A tg H M) (hI : Inv bd M) (x x2 : Int32) (hne : (oSet M x x2 (nI 5)).1 ≠ 0) : vx_Met l yL_refused wsL_refused (rmL 9 3 18) (PcE D T dE mi A H [.ref b0, .int (nI 5), .int x, .int x2]) (QI A (fun r H1 => r = nI (rfw 5 (oSet M x x2 (nI 5)).1) ∧ KP H H1)) (XX A (XN)) 3 18 A := by
  refine entryH (hh := [(0, 190, 191, 81), (0, 190, 195, 83), (0, 190, 199, 85), (0, 190, 203, 87)]) (cc := cL_refused) (maxL := 5) (ret := (some .int)) (by decide) rfl (Nat.le_of_ble_eq_true rfl) ?_
  intro p e s m args below meth c hx hb hrt9 hml hown hts hlk htb hnm hev hS ls hl
  have hown : s.vm.findClass RL = some m.cls := hown
  have hK := hev.1
  have hl : lv_has ls 5 [(0, .ref b0), (1, .int (nI 5)), (2, .int x), (3, .int x2)] := hl
  obtain ⟨y, zq, zy, wo, hC, hQ, hY, hW, hwo⟩ := id hR
  have hX := hC.2.1
  refine lv_iload_n hx hb dL_refused_0 rfl (lv_at hl 1 rfl) ?_
  refine y_if_ne hx hb (by decide) (tgt := 11) dL_refused_1 (by decide) (fun c1 => ?_) (fun c1 => ?_)
  · refine lv_iload_n hx hb dL_refused_11 rfl (lv_at hl 1 rfl) ?_
    refine lv_iconst (v := nI 1) hx hb dL_refused_12 (by decide) ?_
    refine y_icmp_ne hx hb (by decide) (by decide) (tgt := 24) dL_refused_13 (by decide) (fun c13 => ?_) (fun c13 => ?_)
    · refine lv_iload_n hx hb dL_refused_24 rfl (lv_at hl 1 rfl) ?_
      refine lv_iconst (v := nI 2) hx hb dL_refused_25 (by decide) ?_
      refine y_icmp_ne hx hb (by decide) (by decide) (tgt := 38) dL_refused_26 (by decide) (fun c26 => ?_) (fun c26 => ?_)
      · refine lv_iload_n hx hb dL_refused_38 rfl (lv_at hl 1 rfl) ?_
        refine lv_iconst (v := nI 3) hx hb dL_refused_39 (by decide) ?_
        refine y_icmp_ne hx hb (by decide) (by decide) (tgt := 53) dL_refused_40 (by decide) (fun c40 => ?_) (fun c40 => ?_)
        · refine lv_iload_n hx hb dL_refused_53 rfl (lv_at hl 1 rfl) ?_
          refine lv_iconst (v := nI 4) hx hb dL_refused_54 (by decide) ?_
          refine y_icmp_ne hx hb (by decide) (by decide) (tgt := 67) dL_refused_55 (by decide) (fun c55 => ?_) (fun c55 => ?_)
          · refine lv_iload_n hx hb dL_refused_67 rfl (lv_at hl 1 rfl) ?_
            refine lv_iconst (v := nI 5) hx hb dL_refused_68 (by decide) ?_
            refine y_icmp_ne hx hb (by decide) (by decide) (tgt := 82) dL_refused_69 (by decide) (fun c69 => ?_) (fun c69 => ?_)
            · exact absurd c69 (by decide)
            · refine lv_aload_n hx hb dL_refused_72 rfl (lv_at hl 0 rfl) ?_
              refine lv_iload_n hx hb dL_refused_73 rfl (lv_at hl 2 rfl) ?_
              refine lv_iload_n hx hb dL_refused_74 rfl (lv_at hl 3 rfl) ?_
              refine lv_iconst (v := nI 5) hx hb dL_refused_75 (by decide) ?_
              refine k_i (k_V (As := [.int x, .int x2, .int (nI 5)]) (rest := []) ⟨hx, hb, hml, hown, hts⟩ hev hS (u_set l hst hR hI x x2 (nI 5)) (cwV 3 hts gL_refused_X6_set rfl rfl rfl (by decide +kernel) ⟨Nat.le_of_ble_eq_true rfl, Nat.le_of_ble_eq_true rfl⟩) (x_recv hK hX.1 rfl) rfl hl.1 (Nat.le_of_ble_eq_true rfl) dL_refused_76 (Nat.le_of_ble_eq_true rfl) (Nat.le_of_ble_eq_true rfl)) hS (fun E9 ce9 qx Hx locsx hx9 hzx hS h7 h8 h9 => ?_) (fun rq1_ H1 locs1 hP hz1 hS => ?_)
              · obtain ⟨hm9, hk9⟩ := hx9
                rcases mem3 hm9 with ⟨hE, hc9⟩ | ⟨hE, hc9⟩ | ⟨hE, hc9⟩
                · subst hE
                  refine vx_catch (own := RL) (name := "java/util/NoSuchElementException") (E := "java/util/NoSuchElementException") hown (tableOf []) ⟨0, 190, 191, 81⟩ (tableOf [(0, 190, 195, 83), (0, 190, 199, 85), (0, 190, 203, 87)]) (htb.trans rfl) PsR.nl (by decide) (by decide) (hts (.classLink RL 81 "java/util/NoSuchElementException") (by decide +kernel)) (va_Nw.use rfl (hev.2.2.2.1 ("java/util/NoSuchElementException", "java/util/NoSuchElementException") (by decide +kernel))) h7 h8 h9 ?_
                  refine lv_astore (lv' := [(4, .ref qx), (0, .ref b0), (1, .int (nI 5)), (2, .int x), (3, .int x2)]) hx hb dL_refused_191 hl (by decide) rfl (fun ls hl => ?_)
                  refine lv_iconst (v := nI 1) hx hb dL_refused_193 (by decide) ?_
                  exact r_i hx hb hrt9 hlk hS (Nat.le_of_ble_eq_true rfl) (Nat.le_of_ble_eq_true rfl) dL_refused_194 (⟨by rw [hc9]; rfl, hk9⟩)
                · subst hE
                  refine vx_catch (own := RL) (name := "java/lang/IllegalArgumentException") (E := "java/lang/IllegalArgumentException") hown (tableOf [(0, 190, 191, 81)]) ⟨0, 190, 195, 83⟩ (tableOf [(0, 190, 199, 85), (0, 190, 203, 87)]) (htb.trans rfl) (PsR.cs (PsR.on (nm := "java/util/NoSuchElementException") (by decide) (hts (.classLink RL 81 "java/util/NoSuchElementException") (by decide +kernel)) (hev.2.2.2.2.1.1.1 ("java/lang/IllegalArgumentException", "java/util/NoSuchElementException") (by decide +kernel))) PsR.nl) (by decide) (by decide) (hts (.classLink RL 83 "java/lang/IllegalArgumentException") (by decide +kernel)) (va_Nw.use rfl (hev.2.2.2.1 ("java/lang/IllegalArgumentException", "java/lang/IllegalArgumentException") (by decide +kernel))) h7 h8 h9 ?_
                  refine lv_astore (lv' := [(4, .ref qx), (0, .ref b0), (1, .int (nI 5)), (2, .int x), (3, .int x2)]) hx hb dL_refused_195 hl (by decide) rfl (fun ls hl => ?_)
                  refine lv_iconst (v := nI 2) hx hb dL_refused_197 (by decide) ?_
                  exact r_i hx hb hrt9 hlk hS (Nat.le_of_ble_eq_true rfl) (Nat.le_of_ble_eq_true rfl) dL_refused_198 (⟨by rw [hc9]; rfl, hk9⟩)
                · subst hE
                  refine vx_catch (own := RL) (name := "java/lang/IllegalStateException") (E := "java/lang/IllegalStateException") hown (tableOf [(0, 190, 191, 81), (0, 190, 195, 83)]) ⟨0, 190, 199, 85⟩ (tableOf [(0, 190, 203, 87)]) (htb.trans rfl) (PsR.cs (PsR.on (nm := "java/util/NoSuchElementException") (by decide) (hts (.classLink RL 81 "java/util/NoSuchElementException") (by decide +kernel)) (hev.2.2.2.2.1.1.1 ("java/lang/IllegalStateException", "java/util/NoSuchElementException") (by decide +kernel))) (PsR.cs (PsR.on (nm := "java/lang/IllegalArgumentException") (by decide) (hts (.classLink RL 83 "java/lang/IllegalArgumentException") (by decide +kernel)) (hev.2.2.2.2.1.1.1 ("java/lang/IllegalStateException", "java/lang/IllegalArgumentException") (by decide +kernel))) PsR.nl)) (by decide) (by decide) (hts (.classLink RL 85 "java/lang/IllegalStateException") (by decide +kernel)) (va_Nw.use rfl (hev.2.2.2.1 ("java/lang/IllegalStateException", "java/lang/IllegalStateException") (by decide +kernel))) h7 h8 h9 ?_
                  refine lv_astore (lv' := [(4, .ref qx), (0, .ref b0), (1, .int (nI 5)), (2, .int x), (3, .int x2)]) hx hb dL_refused_199 hl (by decide) rfl (fun ls hl => ?_)
                  refine lv_iconst (v := nI 3) hx hb dL_refused_201 (by decide) ?_
                  exact r_i hx hb hrt9 hlk hS (Nat.le_of_ble_eq_true rfl) (Nat.le_of_ble_eq_true rfl) dL_refused_202 (⟨by rw [hc9]; rfl, hk9⟩)
              -- on
              exact absurd hP.1 hne
          · exact absurd c55 (by decide)
        · exact absurd c40 (by decide)
      · exact absurd c26 (by decide)
    · exact absurd c13 (by decide)
  · exact absurd c1 (by decide)
set_option maxHeartbeats 4000000 in
set_option maxRecDepth 100000 in
theorem c_L_refused6 (l : Launch) {D : va_G} {T : Nat → ClassId} {dE mi : Nat} (hst : l.stackTraces = false) {A : Nat → Prop} {H : Heap} {b0 bd : Nat} {tg : Nat → Nat} {M : mSt} (hR : RepT D T dE b0 A tg H M) (hI : Inv bd M) (x x2 : Int32) (hne : (oValue M x x2).1 ≠ 0) : vx_Met l yL_refused wsL_refused (rmL 9 3 18) (PcE D T dE mi A H [.ref b0, .int (nI 6), .int x, .int x2]) (QI A (fun r H1 => r = nI (rfw 6 (oValue M x x2).1) ∧ KP H H1)) (XX A (XN)) 3 18 A := by
  refine entryH (hh := [(0, 190, 191, 81), (0, 190, 195, 83), (0, 190, 199, 85), (0, 190, 203, 87)]) (cc := cL_refused) (maxL := 5) (ret := (some .int)) (by decide) rfl (Nat.le_of_ble_eq_true rfl) ?_
  intro p e s m args below meth c hx hb hrt9 hml hown hts hlk htb hnm hev hS ls hl
  have hown : s.vm.findClass RL = some m.cls := hown
  have hK := hev.1
  have hl : lv_has ls 5 [(0, .ref b0), (1, .int (nI 6)), (2, .int x), (3, .int x2)] := hl
  obtain ⟨y, zq, zy, wo, hC, hQ, hY, hW, hwo⟩ := id hR
  have hX := hC.2.1
  refine lv_iload_n hx hb dL_refused_0 rfl (lv_at hl 1 rfl) ?_
  refine y_if_ne hx hb (by decide) (tgt := 11) dL_refused_1 (by decide) (fun c1 => ?_) (fun c1 => ?_)
  · refine lv_iload_n hx hb dL_refused_11 rfl (lv_at hl 1 rfl) ?_
    refine lv_iconst (v := nI 1) hx hb dL_refused_12 (by decide) ?_
    refine y_icmp_ne hx hb (by decide) (by decide) (tgt := 24) dL_refused_13 (by decide) (fun c13 => ?_) (fun c13 => ?_)
    · refine lv_iload_n hx hb dL_refused_24 rfl (lv_at hl 1 rfl) ?_
      refine lv_iconst (v := nI 2) hx hb dL_refused_25 (by decide) ?_
      refine y_icmp_ne hx hb (by decide) (by decide) (tgt := 38) dL_refused_26 (by decide) (fun c26 => ?_) (fun c26 => ?_)
      · refine lv_iload_n hx hb dL_refused_38 rfl (lv_at hl 1 rfl) ?_
        refine lv_iconst (v := nI 3) hx hb dL_refused_39 (by decide) ?_
        refine y_icmp_ne hx hb (by decide) (by decide) (tgt := 53) dL_refused_40 (by decide) (fun c40 => ?_) (fun c40 => ?_)
        · refine lv_iload_n hx hb dL_refused_53 rfl (lv_at hl 1 rfl) ?_
          refine lv_iconst (v := nI 4) hx hb dL_refused_54 (by decide) ?_
          refine y_icmp_ne hx hb (by decide) (by decide) (tgt := 67) dL_refused_55 (by decide) (fun c55 => ?_) (fun c55 => ?_)
          · refine lv_iload_n hx hb dL_refused_67 rfl (lv_at hl 1 rfl) ?_
            refine lv_iconst (v := nI 5) hx hb dL_refused_68 (by decide) ?_
            refine y_icmp_ne hx hb (by decide) (by decide) (tgt := 82) dL_refused_69 (by decide) (fun c69 => ?_) (fun c69 => ?_)
            · refine lv_iload_n hx hb dL_refused_82 rfl (lv_at hl 1 rfl) ?_
              refine lv_bipush (v := nI 6) hx hb dL_refused_83 (by decide) ?_
              refine y_icmp_ne hx hb (by decide) (by decide) (tgt := 97) dL_refused_85 (by decide) (fun c85 => ?_) (fun c85 => ?_)
              · exact absurd c85 (by decide)
              · refine lv_aload_n hx hb dL_refused_88 rfl (lv_at hl 0 rfl) ?_
                refine lv_iload_n hx hb dL_refused_89 rfl (lv_at hl 2 rfl) ?_
                refine lv_iload_n hx hb dL_refused_90 rfl (lv_at hl 3 rfl) ?_
                refine k_i (k_V (As := [.int x, .int x2]) (rest := []) ⟨hx, hb, hml, hown, hts⟩ hev hS (u_value l hst hR hI x x2) (cwV 2 hts gL_refused_X6_value rfl rfl rfl (by decide +kernel) ⟨Nat.le_of_ble_eq_true rfl, Nat.le_of_ble_eq_true rfl⟩) (x_recv hK hX.1 rfl) rfl hl.1 (Nat.le_of_ble_eq_true rfl) dL_refused_91 (Nat.le_of_ble_eq_true rfl) (Nat.le_of_ble_eq_true rfl)) hS (fun E9 ce9 qx Hx locsx hx9 hzx hS h7 h8 h9 => ?_) (fun rq1_ H1 locs1 hP hz1 hS => ?_)
                · obtain ⟨hm9, hk9⟩ := hx9
                  rcases mem3 hm9 with ⟨hE, hc9⟩ | ⟨hE, hc9⟩ | ⟨hE, hc9⟩
                  · subst hE
                    refine vx_catch (own := RL) (name := "java/util/NoSuchElementException") (E := "java/util/NoSuchElementException") hown (tableOf []) ⟨0, 190, 191, 81⟩ (tableOf [(0, 190, 195, 83), (0, 190, 199, 85), (0, 190, 203, 87)]) (htb.trans rfl) PsR.nl (by decide) (by decide) (hts (.classLink RL 81 "java/util/NoSuchElementException") (by decide +kernel)) (va_Nw.use rfl (hev.2.2.2.1 ("java/util/NoSuchElementException", "java/util/NoSuchElementException") (by decide +kernel))) h7 h8 h9 ?_
                    refine lv_astore (lv' := [(4, .ref qx), (0, .ref b0), (1, .int (nI 6)), (2, .int x), (3, .int x2)]) hx hb dL_refused_191 hl (by decide) rfl (fun ls hl => ?_)
                    refine lv_iconst (v := nI 1) hx hb dL_refused_193 (by decide) ?_
                    exact r_i hx hb hrt9 hlk hS (Nat.le_of_ble_eq_true rfl) (Nat.le_of_ble_eq_true rfl) dL_refused_194 (⟨by rw [hc9]; rfl, hk9⟩)
                  · subst hE
                    refine vx_catch (own := RL) (name := "java/lang/IllegalArgumentException") (E := "java/lang/IllegalArgumentException") hown (tableOf [(0, 190, 191, 81)]) ⟨0, 190, 195, 83⟩ (tableOf [(0, 190, 199, 85), (0, 190, 203, 87)]) (htb.trans rfl) (PsR.cs (PsR.on (nm := "java/util/NoSuchElementException") (by decide) (hts (.classLink RL 81 "java/util/NoSuchElementException") (by decide +kernel)) (hev.2.2.2.2.1.1.1 ("java/lang/IllegalArgumentException", "java/util/NoSuchElementException") (by decide +kernel))) PsR.nl) (by decide) (by decide) (hts (.classLink RL 83 "java/lang/IllegalArgumentException") (by decide +kernel)) (va_Nw.use rfl (hev.2.2.2.1 ("java/lang/IllegalArgumentException", "java/lang/IllegalArgumentException") (by decide +kernel))) h7 h8 h9 ?_
                    refine lv_astore (lv' := [(4, .ref qx), (0, .ref b0), (1, .int (nI 6)), (2, .int x), (3, .int x2)]) hx hb dL_refused_195 hl (by decide) rfl (fun ls hl => ?_)
                    refine lv_iconst (v := nI 2) hx hb dL_refused_197 (by decide) ?_
                    exact r_i hx hb hrt9 hlk hS (Nat.le_of_ble_eq_true rfl) (Nat.le_of_ble_eq_true rfl) dL_refused_198 (⟨by rw [hc9]; rfl, hk9⟩)
                  · subst hE
                    refine vx_catch (own := RL) (name := "java/lang/IllegalStateException") (E := "java/lang/IllegalStateException") hown (tableOf [(0, 190, 191, 81), (0, 190, 195, 83)]) ⟨0, 190, 199, 85⟩ (tableOf [(0, 190, 203, 87)]) (htb.trans rfl) (PsR.cs (PsR.on (nm := "java/util/NoSuchElementException") (by decide) (hts (.classLink RL 81 "java/util/NoSuchElementException") (by decide +kernel)) (hev.2.2.2.2.1.1.1 ("java/lang/IllegalStateException", "java/util/NoSuchElementException") (by decide +kernel))) (PsR.cs (PsR.on (nm := "java/lang/IllegalArgumentException") (by decide) (hts (.classLink RL 83 "java/lang/IllegalArgumentException") (by decide +kernel)) (hev.2.2.2.2.1.1.1 ("java/lang/IllegalStateException", "java/lang/IllegalArgumentException") (by decide +kernel))) PsR.nl)) (by decide) (by decide) (hts (.classLink RL 85 "java/lang/IllegalStateException") (by decide +kernel)) (va_Nw.use rfl (hev.2.2.2.1 ("java/lang/IllegalStateException", "java/lang/IllegalStateException") (by decide +kernel))) h7 h8 h9 ?_
                    refine lv_astore (lv' := [(4, .ref qx), (0, .ref b0), (1, .int (nI 6)), (2, .int x), (3, .int x2)]) hx hb dL_refused_199 hl (by decide) rfl (fun ls hl => ?_)
                    refine lv_iconst (v := nI 3) hx hb dL_refused_201 (by decide) ?_
                    exact r_i hx hb hrt9 hlk hS (Nat.le_of_ble_eq_true rfl) (Nat.le_of_ble_eq_true rfl) dL_refused_202 (⟨by rw [hc9]; rfl, hk9⟩)
                -- on
                exact absurd hP.1 hne
            · exact absurd c69 (by decide)
          · exact absurd c55 (by decide)
        · exact absurd c40 (by decide)
      · exact absurd c26 (by decide)
    · exact absurd c13 (by decide)
  · exact absurd c1 (by decide)
set_option maxHeartbeats 4000000 in
set_option maxRecDepth 100000 in
theorem c_L_refused7 (l : Launch) {D : va_G} {T : Nat → ClassId} {dE mi : Nat} (hst : l.stackTraces = false) {A : Nat → Prop} {H : Heap} {b0 bd : Nat} {tg : Nat → Nat} {M : mSt} (hR : RepT D T dE b0 A tg H M) (hI : Inv bd M) (x x2 : Int32) (hne : (oEntityAt M x x2).1 ≠ 0) : vx_Met l yL_refused wsL_refused (rmL 8 2 12) (PcE D T dE mi A H [.ref b0, .int (nI 7), .int x, .int x2]) (QI A (fun r H1 => r = nI (rfw 7 (oEntityAt M x x2).1) ∧ KP H H1)) (XX A (XN)) 2 12 A := by
  refine entryH (hh := [(0, 190, 191, 81), (0, 190, 195, 83), (0, 190, 199, 85), (0, 190, 203, 87)]) (cc := cL_refused) (maxL := 5) (ret := (some .int)) (by decide) rfl (Nat.le_of_ble_eq_true rfl) ?_
  intro p e s m args below meth c hx hb hrt9 hml hown hts hlk htb hnm hev hS ls hl
  have hown : s.vm.findClass RL = some m.cls := hown
  have hK := hev.1
  have hl : lv_has ls 5 [(0, .ref b0), (1, .int (nI 7)), (2, .int x), (3, .int x2)] := hl
  obtain ⟨y, zq, zy, wo, hC, hQ, hY, hW, hwo⟩ := id hR
  have hX := hC.2.1
  refine lv_iload_n hx hb dL_refused_0 rfl (lv_at hl 1 rfl) ?_
  refine y_if_ne hx hb (by decide) (tgt := 11) dL_refused_1 (by decide) (fun c1 => ?_) (fun c1 => ?_)
  · refine lv_iload_n hx hb dL_refused_11 rfl (lv_at hl 1 rfl) ?_
    refine lv_iconst (v := nI 1) hx hb dL_refused_12 (by decide) ?_
    refine y_icmp_ne hx hb (by decide) (by decide) (tgt := 24) dL_refused_13 (by decide) (fun c13 => ?_) (fun c13 => ?_)
    · refine lv_iload_n hx hb dL_refused_24 rfl (lv_at hl 1 rfl) ?_
      refine lv_iconst (v := nI 2) hx hb dL_refused_25 (by decide) ?_
      refine y_icmp_ne hx hb (by decide) (by decide) (tgt := 38) dL_refused_26 (by decide) (fun c26 => ?_) (fun c26 => ?_)
      · refine lv_iload_n hx hb dL_refused_38 rfl (lv_at hl 1 rfl) ?_
        refine lv_iconst (v := nI 3) hx hb dL_refused_39 (by decide) ?_
        refine y_icmp_ne hx hb (by decide) (by decide) (tgt := 53) dL_refused_40 (by decide) (fun c40 => ?_) (fun c40 => ?_)
        · refine lv_iload_n hx hb dL_refused_53 rfl (lv_at hl 1 rfl) ?_
          refine lv_iconst (v := nI 4) hx hb dL_refused_54 (by decide) ?_
          refine y_icmp_ne hx hb (by decide) (by decide) (tgt := 67) dL_refused_55 (by decide) (fun c55 => ?_) (fun c55 => ?_)
          · refine lv_iload_n hx hb dL_refused_67 rfl (lv_at hl 1 rfl) ?_
            refine lv_iconst (v := nI 5) hx hb dL_refused_68 (by decide) ?_
            refine y_icmp_ne hx hb (by decide) (by decide) (tgt := 82) dL_refused_69 (by decide) (fun c69 => ?_) (fun c69 => ?_)
            · refine lv_iload_n hx hb dL_refused_82 rfl (lv_at hl 1 rfl) ?_
              refine lv_bipush (v := nI 6) hx hb dL_refused_83 (by decide) ?_
              refine y_icmp_ne hx hb (by decide) (by decide) (tgt := 97) dL_refused_85 (by decide) (fun c85 => ?_) (fun c85 => ?_)
              · refine lv_iload_n hx hb dL_refused_97 rfl (lv_at hl 1 rfl) ?_
                refine lv_bipush (v := nI 7) hx hb dL_refused_98 (by decide) ?_
                refine y_icmp_ne hx hb (by decide) (by decide) (tgt := 112) dL_refused_100 (by decide) (fun c100 => ?_) (fun c100 => ?_)
                · exact absurd c100 (by decide)
                · refine lv_aload_n hx hb dL_refused_103 rfl (lv_at hl 0 rfl) ?_
                  refine lv_iload_n hx hb dL_refused_104 rfl (lv_at hl 2 rfl) ?_
                  refine lv_iload_n hx hb dL_refused_105 rfl (lv_at hl 3 rfl) ?_
                  refine k_i (k_V (As := [.int x, .int x2]) (rest := []) ⟨hx, hb, hml, hown, hts⟩ hev hS (u_entityAt l hst hR hI x x2) (cwV 2 hts gL_refused_X6_entityAt rfl rfl rfl (by decide +kernel) ⟨Nat.le_of_ble_eq_true rfl, Nat.le_of_ble_eq_true rfl⟩) (x_recv hK hX.1 rfl) rfl hl.1 (Nat.le_of_ble_eq_true rfl) dL_refused_106 (Nat.le_of_ble_eq_true rfl) (Nat.le_of_ble_eq_true rfl)) hS (fun E9 ce9 qx Hx locsx hx9 hzx hS h7 h8 h9 => ?_) (fun rq1_ H1 locs1 hP hz1 hS => ?_)
                  · obtain ⟨hm9, hk9⟩ := hx9
                    obtain ⟨hE, hc9⟩ := mem1 hm9
                    · subst hE
                      refine vx_catch (own := RL) (name := "java/lang/IndexOutOfBoundsException") (E := "java/lang/IndexOutOfBoundsException") hown (tableOf [(0, 190, 191, 81), (0, 190, 195, 83), (0, 190, 199, 85)]) ⟨0, 190, 203, 87⟩ (tableOf []) (htb.trans rfl) (PsR.cs (PsR.on (nm := "java/util/NoSuchElementException") (by decide) (hts (.classLink RL 81 "java/util/NoSuchElementException") (by decide +kernel)) (hev.2.2.2.2.1.1.1 ("java/lang/IndexOutOfBoundsException", "java/util/NoSuchElementException") (by decide +kernel))) (PsR.cs (PsR.on (nm := "java/lang/IllegalArgumentException") (by decide) (hts (.classLink RL 83 "java/lang/IllegalArgumentException") (by decide +kernel)) (hev.2.2.2.2.1.1.1 ("java/lang/IndexOutOfBoundsException", "java/lang/IllegalArgumentException") (by decide +kernel))) (PsR.cs (PsR.on (nm := "java/lang/IllegalStateException") (by decide) (hts (.classLink RL 85 "java/lang/IllegalStateException") (by decide +kernel)) (hev.2.2.2.2.1.1.1 ("java/lang/IndexOutOfBoundsException", "java/lang/IllegalStateException") (by decide +kernel))) PsR.nl))) (by decide) (by decide) (hts (.classLink RL 87 "java/lang/IndexOutOfBoundsException") (by decide +kernel)) (va_Nw.use rfl (hev.2.2.2.1 ("java/lang/IndexOutOfBoundsException", "java/lang/IndexOutOfBoundsException") (by decide +kernel))) h7 h8 h9 ?_
                      refine lv_astore (lv' := [(4, .ref qx), (0, .ref b0), (1, .int (nI 7)), (2, .int x), (3, .int x2)]) hx hb dL_refused_203 hl (by decide) rfl (fun ls hl => ?_)
                      refine lv_iconst (v := nI 4) hx hb dL_refused_205 (by decide) ?_
                      exact r_i hx hb hrt9 hlk hS (Nat.le_of_ble_eq_true rfl) (Nat.le_of_ble_eq_true rfl) dL_refused_206 (⟨by rw [hc9]; rfl, hk9⟩)
                  -- on
                  exact absurd hP.1 hne
              · exact absurd c85 (by decide)
            · exact absurd c69 (by decide)
          · exact absurd c55 (by decide)
        · exact absurd c40 (by decide)
      · exact absurd c26 (by decide)
    · exact absurd c13 (by decide)
  · exact absurd c1 (by decide)
set_option maxHeartbeats 4000000 in
set_option maxRecDepth 100000 in
theorem c_L_refused8 (l : Launch) {D : va_G} {T : Nat → ClassId} {dE mi : Nat} (hst : l.stackTraces = false) {A : Nat → Prop} {H : Heap} {b0 bd : Nat} {tg : Nat → Nat} {M : mSt} (hR : RepT D T dE b0 A tg H M) (hI : Inv bd M) (x x2 : Int32) (hne : (oAnswer M x x2).1 ≠ 0) : vx_Met l yL_refused wsL_refused (rmL 10 7 95) (PcE D T dE mi A H [.ref b0, .int (nI 8), .int x, .int x2]) (QI A (fun r H1 => r = nI (rfw 8 (oAnswer M x x2).1) ∧ KP H H1)) (XX A (XN)) 7 95 A := by
  refine entryH (hh := [(0, 190, 191, 81), (0, 190, 195, 83), (0, 190, 199, 85), (0, 190, 203, 87)]) (cc := cL_refused) (maxL := 5) (ret := (some .int)) (by decide) rfl (Nat.le_of_ble_eq_true rfl) ?_
  intro p e s m args below meth c hx hb hrt9 hml hown hts hlk htb hnm hev hS ls hl
  have hown : s.vm.findClass RL = some m.cls := hown
  have hK := hev.1
  have hl : lv_has ls 5 [(0, .ref b0), (1, .int (nI 8)), (2, .int x), (3, .int x2)] := hl
  obtain ⟨y, zq, zy, wo, hC, hQ, hY, hW, hwo⟩ := id hR
  have hX := hC.2.1
  refine lv_iload_n hx hb dL_refused_0 rfl (lv_at hl 1 rfl) ?_
  refine y_if_ne hx hb (by decide) (tgt := 11) dL_refused_1 (by decide) (fun c1 => ?_) (fun c1 => ?_)
  · refine lv_iload_n hx hb dL_refused_11 rfl (lv_at hl 1 rfl) ?_
    refine lv_iconst (v := nI 1) hx hb dL_refused_12 (by decide) ?_
    refine y_icmp_ne hx hb (by decide) (by decide) (tgt := 24) dL_refused_13 (by decide) (fun c13 => ?_) (fun c13 => ?_)
    · refine lv_iload_n hx hb dL_refused_24 rfl (lv_at hl 1 rfl) ?_
      refine lv_iconst (v := nI 2) hx hb dL_refused_25 (by decide) ?_
      refine y_icmp_ne hx hb (by decide) (by decide) (tgt := 38) dL_refused_26 (by decide) (fun c26 => ?_) (fun c26 => ?_)
      · refine lv_iload_n hx hb dL_refused_38 rfl (lv_at hl 1 rfl) ?_
        refine lv_iconst (v := nI 3) hx hb dL_refused_39 (by decide) ?_
        refine y_icmp_ne hx hb (by decide) (by decide) (tgt := 53) dL_refused_40 (by decide) (fun c40 => ?_) (fun c40 => ?_)
        · refine lv_iload_n hx hb dL_refused_53 rfl (lv_at hl 1 rfl) ?_
          refine lv_iconst (v := nI 4) hx hb dL_refused_54 (by decide) ?_
          refine y_icmp_ne hx hb (by decide) (by decide) (tgt := 67) dL_refused_55 (by decide) (fun c55 => ?_) (fun c55 => ?_)
          · refine lv_iload_n hx hb dL_refused_67 rfl (lv_at hl 1 rfl) ?_
            refine lv_iconst (v := nI 5) hx hb dL_refused_68 (by decide) ?_
            refine y_icmp_ne hx hb (by decide) (by decide) (tgt := 82) dL_refused_69 (by decide) (fun c69 => ?_) (fun c69 => ?_)
            · refine lv_iload_n hx hb dL_refused_82 rfl (lv_at hl 1 rfl) ?_
              refine lv_bipush (v := nI 6) hx hb dL_refused_83 (by decide) ?_
              refine y_icmp_ne hx hb (by decide) (by decide) (tgt := 97) dL_refused_85 (by decide) (fun c85 => ?_) (fun c85 => ?_)
              · refine lv_iload_n hx hb dL_refused_97 rfl (lv_at hl 1 rfl) ?_
                refine lv_bipush (v := nI 7) hx hb dL_refused_98 (by decide) ?_
                refine y_icmp_ne hx hb (by decide) (by decide) (tgt := 112) dL_refused_100 (by decide) (fun c100 => ?_) (fun c100 => ?_)
                · refine lv_iload_n hx hb dL_refused_112 rfl (lv_at hl 1 rfl) ?_
                  refine lv_bipush (v := nI 8) hx hb dL_refused_113 (by decide) ?_
                  refine y_icmp_ne hx hb (by decide) (by decide) (tgt := 127) dL_refused_115 (by decide) (fun c115 => ?_) (fun c115 => ?_)
                  · exact absurd c115 (by decide)
                  · refine lv_aload_n hx hb dL_refused_118 rfl (lv_at hl 0 rfl) ?_
                    refine lv_iload_n hx hb dL_refused_119 rfl (lv_at hl 2 rfl) ?_
                    refine lv_iload_n hx hb dL_refused_120 rfl (lv_at hl 3 rfl) ?_
                    refine k_i (k_V (As := [.int x, .int x2]) (rest := []) ⟨hx, hb, hml, hown, hts⟩ hev hS (u_answer l hst hR hI x x2) (cwV 2 hts gL_refused_X6_answer rfl rfl rfl (by decide +kernel) ⟨Nat.le_of_ble_eq_true rfl, Nat.le_of_ble_eq_true rfl⟩) (x_recv hK hX.1 rfl) rfl hl.1 (Nat.le_of_ble_eq_true rfl) dL_refused_121 (Nat.le_of_ble_eq_true rfl) (Nat.le_of_ble_eq_true rfl)) hS (fun E9 ce9 qx Hx locsx hx9 hzx hS h7 h8 h9 => ?_) (fun rq1_ H1 locs1 hP hz1 hS => ?_)
                    · obtain ⟨hm9, hk9⟩ := hx9
                      obtain ⟨hE, hc9⟩ := mem1 hm9
                      · subst hE
                        refine vx_catch (own := RL) (name := "java/lang/IndexOutOfBoundsException") (E := "java/lang/IndexOutOfBoundsException") hown (tableOf [(0, 190, 191, 81), (0, 190, 195, 83), (0, 190, 199, 85)]) ⟨0, 190, 203, 87⟩ (tableOf []) (htb.trans rfl) (PsR.cs (PsR.on (nm := "java/util/NoSuchElementException") (by decide) (hts (.classLink RL 81 "java/util/NoSuchElementException") (by decide +kernel)) (hev.2.2.2.2.1.1.1 ("java/lang/IndexOutOfBoundsException", "java/util/NoSuchElementException") (by decide +kernel))) (PsR.cs (PsR.on (nm := "java/lang/IllegalArgumentException") (by decide) (hts (.classLink RL 83 "java/lang/IllegalArgumentException") (by decide +kernel)) (hev.2.2.2.2.1.1.1 ("java/lang/IndexOutOfBoundsException", "java/lang/IllegalArgumentException") (by decide +kernel))) (PsR.cs (PsR.on (nm := "java/lang/IllegalStateException") (by decide) (hts (.classLink RL 85 "java/lang/IllegalStateException") (by decide +kernel)) (hev.2.2.2.2.1.1.1 ("java/lang/IndexOutOfBoundsException", "java/lang/IllegalStateException") (by decide +kernel))) PsR.nl))) (by decide) (by decide) (hts (.classLink RL 87 "java/lang/IndexOutOfBoundsException") (by decide +kernel)) (va_Nw.use rfl (hev.2.2.2.1 ("java/lang/IndexOutOfBoundsException", "java/lang/IndexOutOfBoundsException") (by decide +kernel))) h7 h8 h9 ?_
                        refine lv_astore (lv' := [(4, .ref qx), (0, .ref b0), (1, .int (nI 8)), (2, .int x), (3, .int x2)]) hx hb dL_refused_203 hl (by decide) rfl (fun ls hl => ?_)
                        refine lv_iconst (v := nI 4) hx hb dL_refused_205 (by decide) ?_
                        exact r_i hx hb hrt9 hlk hS (Nat.le_of_ble_eq_true rfl) (Nat.le_of_ble_eq_true rfl) dL_refused_206 (⟨by rw [hc9]; rfl, hk9⟩)
                    -- on
                    exact absurd hP.1 hne
                · exact absurd c100 (by decide)
              · exact absurd c85 (by decide)
            · exact absurd c69 (by decide)
          · exact absurd c55 (by decide)
        · exact absurd c40 (by decide)
      · exact absurd c26 (by decide)
    · exact absurd c13 (by decide)
  · exact absurd c1 (by decide)
set_option maxHeartbeats 4000000 in
set_option maxRecDepth 100000 in
theorem c_L_refused9 (l : Launch) {D : va_G} {T : Nat → ClassId} {dE mi : Nat} (hst : l.stackTraces = false) {A : Nat → Prop} {H : Heap} {b0 bd : Nat} {tg : Nat → Nat} {M : mSt} (hR : RepT D T dE b0 A tg H M) (hI : Inv bd M) (x x2 : Int32) (hne : (oWalk M x).1 ≠ 0) : vx_Met l yL_refused wsL_refused (rmL 10 9 101) (PcE D T dE mi A H [.ref b0, .int (nI 9), .int x, .int x2]) (QI A (fun r H1 => r = nI (rfw 9 (oWalk M x).1) ∧ KP H H1)) (XX A (XN)) 9 101 A := by
  refine entryH (hh := [(0, 190, 191, 81), (0, 190, 195, 83), (0, 190, 199, 85), (0, 190, 203, 87)]) (cc := cL_refused) (maxL := 5) (ret := (some .int)) (by decide) rfl (Nat.le_of_ble_eq_true rfl) ?_
  intro p e s m args below meth c hx hb hrt9 hml hown hts hlk htb hnm hev hS ls hl
  have hown : s.vm.findClass RL = some m.cls := hown
  have hK := hev.1
  have hl : lv_has ls 5 [(0, .ref b0), (1, .int (nI 9)), (2, .int x), (3, .int x2)] := hl
  obtain ⟨y, zq, zy, wo, hC, hQ, hY, hW, hwo⟩ := id hR
  have hX := hC.2.1
  refine lv_iload_n hx hb dL_refused_0 rfl (lv_at hl 1 rfl) ?_
  refine y_if_ne hx hb (by decide) (tgt := 11) dL_refused_1 (by decide) (fun c1 => ?_) (fun c1 => ?_)
  · refine lv_iload_n hx hb dL_refused_11 rfl (lv_at hl 1 rfl) ?_
    refine lv_iconst (v := nI 1) hx hb dL_refused_12 (by decide) ?_
    refine y_icmp_ne hx hb (by decide) (by decide) (tgt := 24) dL_refused_13 (by decide) (fun c13 => ?_) (fun c13 => ?_)
    · refine lv_iload_n hx hb dL_refused_24 rfl (lv_at hl 1 rfl) ?_
      refine lv_iconst (v := nI 2) hx hb dL_refused_25 (by decide) ?_
      refine y_icmp_ne hx hb (by decide) (by decide) (tgt := 38) dL_refused_26 (by decide) (fun c26 => ?_) (fun c26 => ?_)
      · refine lv_iload_n hx hb dL_refused_38 rfl (lv_at hl 1 rfl) ?_
        refine lv_iconst (v := nI 3) hx hb dL_refused_39 (by decide) ?_
        refine y_icmp_ne hx hb (by decide) (by decide) (tgt := 53) dL_refused_40 (by decide) (fun c40 => ?_) (fun c40 => ?_)
        · refine lv_iload_n hx hb dL_refused_53 rfl (lv_at hl 1 rfl) ?_
          refine lv_iconst (v := nI 4) hx hb dL_refused_54 (by decide) ?_
          refine y_icmp_ne hx hb (by decide) (by decide) (tgt := 67) dL_refused_55 (by decide) (fun c55 => ?_) (fun c55 => ?_)
          · refine lv_iload_n hx hb dL_refused_67 rfl (lv_at hl 1 rfl) ?_
            refine lv_iconst (v := nI 5) hx hb dL_refused_68 (by decide) ?_
            refine y_icmp_ne hx hb (by decide) (by decide) (tgt := 82) dL_refused_69 (by decide) (fun c69 => ?_) (fun c69 => ?_)
            · refine lv_iload_n hx hb dL_refused_82 rfl (lv_at hl 1 rfl) ?_
              refine lv_bipush (v := nI 6) hx hb dL_refused_83 (by decide) ?_
              refine y_icmp_ne hx hb (by decide) (by decide) (tgt := 97) dL_refused_85 (by decide) (fun c85 => ?_) (fun c85 => ?_)
              · refine lv_iload_n hx hb dL_refused_97 rfl (lv_at hl 1 rfl) ?_
                refine lv_bipush (v := nI 7) hx hb dL_refused_98 (by decide) ?_
                refine y_icmp_ne hx hb (by decide) (by decide) (tgt := 112) dL_refused_100 (by decide) (fun c100 => ?_) (fun c100 => ?_)
                · refine lv_iload_n hx hb dL_refused_112 rfl (lv_at hl 1 rfl) ?_
                  refine lv_bipush (v := nI 8) hx hb dL_refused_113 (by decide) ?_
                  refine y_icmp_ne hx hb (by decide) (by decide) (tgt := 127) dL_refused_115 (by decide) (fun c115 => ?_) (fun c115 => ?_)
                  · refine lv_iload_n hx hb dL_refused_127 rfl (lv_at hl 1 rfl) ?_
                    refine lv_bipush (v := nI 9) hx hb dL_refused_128 (by decide) ?_
                    refine y_icmp_ne hx hb (by decide) (by decide) (tgt := 141) dL_refused_130 (by decide) (fun c130 => ?_) (fun c130 => ?_)
                    · exact absurd c130 (by decide)
                    · refine lv_aload_n hx hb dL_refused_133 rfl (lv_at hl 0 rfl) ?_
                      refine lv_iload_n hx hb dL_refused_134 rfl (lv_at hl 2 rfl) ?_
                      refine k_i (k_V (As := [.int x]) (rest := []) ⟨hx, hb, hml, hown, hts⟩ hev hS (u_walk l hst hR hI x) (cwV 1 hts gL_refused_X6_walk rfl rfl rfl (by decide +kernel) ⟨Nat.le_of_ble_eq_true rfl, Nat.le_of_ble_eq_true rfl⟩) (x_recv hK hX.1 rfl) rfl hl.1 (Nat.le_of_ble_eq_true rfl) dL_refused_135 (Nat.le_of_ble_eq_true rfl) (Nat.le_of_ble_eq_true rfl)) hS (fun E9 ce9 qx Hx locsx hx9 hzx hS h7 h8 h9 => ?_) (fun rq1_ H1 locs1 hP hz1 hS => ?_)
                      · obtain ⟨hm9, hk9⟩ := hx9
                        rcases mem2 hm9 with ⟨hE, hc9⟩ | ⟨hE, hc9⟩
                        · subst hE
                          refine vx_catch (own := RL) (name := "java/lang/IndexOutOfBoundsException") (E := "java/lang/IndexOutOfBoundsException") hown (tableOf [(0, 190, 191, 81), (0, 190, 195, 83), (0, 190, 199, 85)]) ⟨0, 190, 203, 87⟩ (tableOf []) (htb.trans rfl) (PsR.cs (PsR.on (nm := "java/util/NoSuchElementException") (by decide) (hts (.classLink RL 81 "java/util/NoSuchElementException") (by decide +kernel)) (hev.2.2.2.2.1.1.1 ("java/lang/IndexOutOfBoundsException", "java/util/NoSuchElementException") (by decide +kernel))) (PsR.cs (PsR.on (nm := "java/lang/IllegalArgumentException") (by decide) (hts (.classLink RL 83 "java/lang/IllegalArgumentException") (by decide +kernel)) (hev.2.2.2.2.1.1.1 ("java/lang/IndexOutOfBoundsException", "java/lang/IllegalArgumentException") (by decide +kernel))) (PsR.cs (PsR.on (nm := "java/lang/IllegalStateException") (by decide) (hts (.classLink RL 85 "java/lang/IllegalStateException") (by decide +kernel)) (hev.2.2.2.2.1.1.1 ("java/lang/IndexOutOfBoundsException", "java/lang/IllegalStateException") (by decide +kernel))) PsR.nl))) (by decide) (by decide) (hts (.classLink RL 87 "java/lang/IndexOutOfBoundsException") (by decide +kernel)) (va_Nw.use rfl (hev.2.2.2.1 ("java/lang/IndexOutOfBoundsException", "java/lang/IndexOutOfBoundsException") (by decide +kernel))) h7 h8 h9 ?_
                          refine lv_astore (lv' := [(4, .ref qx), (0, .ref b0), (1, .int (nI 9)), (2, .int x), (3, .int x2)]) hx hb dL_refused_203 hl (by decide) rfl (fun ls hl => ?_)
                          refine lv_iconst (v := nI 4) hx hb dL_refused_205 (by decide) ?_
                          exact r_i hx hb hrt9 hlk hS (Nat.le_of_ble_eq_true rfl) (Nat.le_of_ble_eq_true rfl) dL_refused_206 (⟨by rw [hc9]; rfl, hk9⟩)
                        · subst hE
                          refine vx_catch (own := RL) (name := "java/lang/IllegalStateException") (E := "java/lang/IllegalStateException") hown (tableOf [(0, 190, 191, 81), (0, 190, 195, 83)]) ⟨0, 190, 199, 85⟩ (tableOf [(0, 190, 203, 87)]) (htb.trans rfl) (PsR.cs (PsR.on (nm := "java/util/NoSuchElementException") (by decide) (hts (.classLink RL 81 "java/util/NoSuchElementException") (by decide +kernel)) (hev.2.2.2.2.1.1.1 ("java/lang/IllegalStateException", "java/util/NoSuchElementException") (by decide +kernel))) (PsR.cs (PsR.on (nm := "java/lang/IllegalArgumentException") (by decide) (hts (.classLink RL 83 "java/lang/IllegalArgumentException") (by decide +kernel)) (hev.2.2.2.2.1.1.1 ("java/lang/IllegalStateException", "java/lang/IllegalArgumentException") (by decide +kernel))) PsR.nl)) (by decide) (by decide) (hts (.classLink RL 85 "java/lang/IllegalStateException") (by decide +kernel)) (va_Nw.use rfl (hev.2.2.2.1 ("java/lang/IllegalStateException", "java/lang/IllegalStateException") (by decide +kernel))) h7 h8 h9 ?_
                          refine lv_astore (lv' := [(4, .ref qx), (0, .ref b0), (1, .int (nI 9)), (2, .int x), (3, .int x2)]) hx hb dL_refused_199 hl (by decide) rfl (fun ls hl => ?_)
                          refine lv_iconst (v := nI 3) hx hb dL_refused_201 (by decide) ?_
                          exact r_i hx hb hrt9 hlk hS (Nat.le_of_ble_eq_true rfl) (Nat.le_of_ble_eq_true rfl) dL_refused_202 (⟨by rw [hc9]; rfl, hk9⟩)
                      -- on
                      exact absurd hP.1 hne
                  · exact absurd c115 (by decide)
                · exact absurd c100 (by decide)
              · exact absurd c85 (by decide)
            · exact absurd c69 (by decide)
          · exact absurd c55 (by decide)
        · exact absurd c40 (by decide)
      · exact absurd c26 (by decide)
    · exact absurd c13 (by decide)
  · exact absurd c1 (by decide)
set_option maxHeartbeats 4000000 in
set_option maxRecDepth 100000 in
theorem c_L_refused10 (l : Launch) {D : va_G} {T : Nat → ClassId} {dE mi : Nat} (hst : l.stackTraces = false) {A : Nat → Prop} {H : Heap} {b0 bd : Nat} {tg : Nat → Nat} {M : mSt} (hR : RepT D T dE b0 A tg H M) (hI : Inv bd M) (x x2 : Int32) (hne : (oRun M).1 ≠ 0) : vx_Met l yL_refused wsL_refused (rmL 8 1 6) (PcE D T dE mi A H [.ref b0, .int (nI 10), .int x, .int x2]) (QI A (fun r H1 => r = nI (rfw 10 (oRun M).1) ∧ KP H H1)) (XX A (XN)) 1 6 A := by
  refine entryH (hh := [(0, 190, 191, 81), (0, 190, 195, 83), (0, 190, 199, 85), (0, 190, 203, 87)]) (cc := cL_refused) (maxL := 5) (ret := (some .int)) (by decide) rfl (Nat.le_of_ble_eq_true rfl) ?_
  intro p e s m args below meth c hx hb hrt9 hml hown hts hlk htb hnm hev hS ls hl
  have hown : s.vm.findClass RL = some m.cls := hown
  have hK := hev.1
  have hl : lv_has ls 5 [(0, .ref b0), (1, .int (nI 10)), (2, .int x), (3, .int x2)] := hl
  obtain ⟨y, zq, zy, wo, hC, hQ, hY, hW, hwo⟩ := id hR
  have hX := hC.2.1
  refine lv_iload_n hx hb dL_refused_0 rfl (lv_at hl 1 rfl) ?_
  refine y_if_ne hx hb (by decide) (tgt := 11) dL_refused_1 (by decide) (fun c1 => ?_) (fun c1 => ?_)
  · refine lv_iload_n hx hb dL_refused_11 rfl (lv_at hl 1 rfl) ?_
    refine lv_iconst (v := nI 1) hx hb dL_refused_12 (by decide) ?_
    refine y_icmp_ne hx hb (by decide) (by decide) (tgt := 24) dL_refused_13 (by decide) (fun c13 => ?_) (fun c13 => ?_)
    · refine lv_iload_n hx hb dL_refused_24 rfl (lv_at hl 1 rfl) ?_
      refine lv_iconst (v := nI 2) hx hb dL_refused_25 (by decide) ?_
      refine y_icmp_ne hx hb (by decide) (by decide) (tgt := 38) dL_refused_26 (by decide) (fun c26 => ?_) (fun c26 => ?_)
      · refine lv_iload_n hx hb dL_refused_38 rfl (lv_at hl 1 rfl) ?_
        refine lv_iconst (v := nI 3) hx hb dL_refused_39 (by decide) ?_
        refine y_icmp_ne hx hb (by decide) (by decide) (tgt := 53) dL_refused_40 (by decide) (fun c40 => ?_) (fun c40 => ?_)
        · refine lv_iload_n hx hb dL_refused_53 rfl (lv_at hl 1 rfl) ?_
          refine lv_iconst (v := nI 4) hx hb dL_refused_54 (by decide) ?_
          refine y_icmp_ne hx hb (by decide) (by decide) (tgt := 67) dL_refused_55 (by decide) (fun c55 => ?_) (fun c55 => ?_)
          · refine lv_iload_n hx hb dL_refused_67 rfl (lv_at hl 1 rfl) ?_
            refine lv_iconst (v := nI 5) hx hb dL_refused_68 (by decide) ?_
            refine y_icmp_ne hx hb (by decide) (by decide) (tgt := 82) dL_refused_69 (by decide) (fun c69 => ?_) (fun c69 => ?_)
            · refine lv_iload_n hx hb dL_refused_82 rfl (lv_at hl 1 rfl) ?_
              refine lv_bipush (v := nI 6) hx hb dL_refused_83 (by decide) ?_
              refine y_icmp_ne hx hb (by decide) (by decide) (tgt := 97) dL_refused_85 (by decide) (fun c85 => ?_) (fun c85 => ?_)
              · refine lv_iload_n hx hb dL_refused_97 rfl (lv_at hl 1 rfl) ?_
                refine lv_bipush (v := nI 7) hx hb dL_refused_98 (by decide) ?_
                refine y_icmp_ne hx hb (by decide) (by decide) (tgt := 112) dL_refused_100 (by decide) (fun c100 => ?_) (fun c100 => ?_)
                · refine lv_iload_n hx hb dL_refused_112 rfl (lv_at hl 1 rfl) ?_
                  refine lv_bipush (v := nI 8) hx hb dL_refused_113 (by decide) ?_
                  refine y_icmp_ne hx hb (by decide) (by decide) (tgt := 127) dL_refused_115 (by decide) (fun c115 => ?_) (fun c115 => ?_)
                  · refine lv_iload_n hx hb dL_refused_127 rfl (lv_at hl 1 rfl) ?_
                    refine lv_bipush (v := nI 9) hx hb dL_refused_128 (by decide) ?_
                    refine y_icmp_ne hx hb (by decide) (by decide) (tgt := 141) dL_refused_130 (by decide) (fun c130 => ?_) (fun c130 => ?_)
                    · refine lv_iload_n hx hb dL_refused_141 rfl (lv_at hl 1 rfl) ?_
                      refine lv_bipush (v := nI 10) hx hb dL_refused_142 (by decide) ?_
                      refine y_icmp_ne hx hb (by decide) (by decide) (tgt := 154) dL_refused_144 (by decide) (fun c144 => ?_) (fun c144 => ?_)
                      · exact absurd c144 (by decide)
                      · refine lv_aload_n hx hb dL_refused_147 rfl (lv_at hl 0 rfl) ?_
                        refine k_i (k_V (As := []) (rest := []) ⟨hx, hb, hml, hown, hts⟩ hev hS (u_run l hst hR hI) (cwV 0 hts gL_refused_X6_run rfl rfl rfl (by decide +kernel) ⟨Nat.le_of_ble_eq_true rfl, Nat.le_of_ble_eq_true rfl⟩) (x_recv hK hX.1 rfl) rfl hl.1 (Nat.le_of_ble_eq_true rfl) dL_refused_148 (Nat.le_of_ble_eq_true rfl) (Nat.le_of_ble_eq_true rfl)) hS (fun E9 ce9 qx Hx locsx hx9 hzx hS h7 h8 h9 => ?_) (fun rq1_ H1 locs1 hP hz1 hS => ?_)
                        · obtain ⟨hm9, hk9⟩ := hx9
                          obtain ⟨hE, hc9⟩ := mem1 hm9
                          · subst hE
                            refine vx_catch (own := RL) (name := "java/lang/IllegalStateException") (E := "java/lang/IllegalStateException") hown (tableOf [(0, 190, 191, 81), (0, 190, 195, 83)]) ⟨0, 190, 199, 85⟩ (tableOf [(0, 190, 203, 87)]) (htb.trans rfl) (PsR.cs (PsR.on (nm := "java/util/NoSuchElementException") (by decide) (hts (.classLink RL 81 "java/util/NoSuchElementException") (by decide +kernel)) (hev.2.2.2.2.1.1.1 ("java/lang/IllegalStateException", "java/util/NoSuchElementException") (by decide +kernel))) (PsR.cs (PsR.on (nm := "java/lang/IllegalArgumentException") (by decide) (hts (.classLink RL 83 "java/lang/IllegalArgumentException") (by decide +kernel)) (hev.2.2.2.2.1.1.1 ("java/lang/IllegalStateException", "java/lang/IllegalArgumentException") (by decide +kernel))) PsR.nl)) (by decide) (by decide) (hts (.classLink RL 85 "java/lang/IllegalStateException") (by decide +kernel)) (va_Nw.use rfl (hev.2.2.2.1 ("java/lang/IllegalStateException", "java/lang/IllegalStateException") (by decide +kernel))) h7 h8 h9 ?_
                            refine lv_astore (lv' := [(4, .ref qx), (0, .ref b0), (1, .int (nI 10)), (2, .int x), (3, .int x2)]) hx hb dL_refused_199 hl (by decide) rfl (fun ls hl => ?_)
                            refine lv_iconst (v := nI 3) hx hb dL_refused_201 (by decide) ?_
                            exact r_i hx hb hrt9 hlk hS (Nat.le_of_ble_eq_true rfl) (Nat.le_of_ble_eq_true rfl) dL_refused_202 (⟨by rw [hc9]; rfl, hk9⟩)
                        -- on
                        exact absurd hP.1 hne
                    · exact absurd c130 (by decide)
                  · exact absurd c115 (by decide)
                · exact absurd c100 (by decide)
              · exact absurd c85 (by decide)
            · exact absurd c69 (by decide)
          · exact absurd c55 (by decide)
        · exact absurd c40 (by decide)
      · exact absurd c26 (by decide)
    · exact absurd c13 (by decide)
  · exact absurd c1 (by decide)
set_option maxHeartbeats 4000000 in
set_option maxRecDepth 100000 in
theorem c_L_refused11 (l : Launch) {D : va_G} {T : Nat → ClassId} {dE mi : Nat} (hst : l.stackTraces = false) {A : Nat → Prop} {H : Heap} {b0 bd : Nat} {tg : Nat → Nat} {M : mSt} (hR : RepT D T dE b0 A tg H M) (hI : Inv bd M) (h8 : bd + 800 ≤ 900000) (x x2 : Int32) (hne : (oFinish M).1 ≠ 0) : vx_Met l yL_refused wsL_refused (rmL 14 281 5166) (PcE D T dE mi A H [.ref b0, .int (nI 11), .int x, .int x2]) (QI A (fun r H1 => r = nI (rfw 11 (oFinish M).1) ∧ KP H H1)) (XX A (XN)) 281 5166 A := by
  refine entryH (hh := [(0, 190, 191, 81), (0, 190, 195, 83), (0, 190, 199, 85), (0, 190, 203, 87)]) (cc := cL_refused) (maxL := 5) (ret := (some .int)) (by decide) rfl (Nat.le_of_ble_eq_true rfl) ?_
  intro p e s m args below meth c hx hb hrt9 hml hown hts hlk htb hnm hev hS ls hl
  have hown : s.vm.findClass RL = some m.cls := hown
  have hK := hev.1
  have hl : lv_has ls 5 [(0, .ref b0), (1, .int (nI 11)), (2, .int x), (3, .int x2)] := hl
  obtain ⟨y, zq, zy, wo, hC, hQ, hY, hW, hwo⟩ := id hR
  have hX := hC.2.1
  refine lv_iload_n hx hb dL_refused_0 rfl (lv_at hl 1 rfl) ?_
  refine y_if_ne hx hb (by decide) (tgt := 11) dL_refused_1 (by decide) (fun c1 => ?_) (fun c1 => ?_)
  · refine lv_iload_n hx hb dL_refused_11 rfl (lv_at hl 1 rfl) ?_
    refine lv_iconst (v := nI 1) hx hb dL_refused_12 (by decide) ?_
    refine y_icmp_ne hx hb (by decide) (by decide) (tgt := 24) dL_refused_13 (by decide) (fun c13 => ?_) (fun c13 => ?_)
    · refine lv_iload_n hx hb dL_refused_24 rfl (lv_at hl 1 rfl) ?_
      refine lv_iconst (v := nI 2) hx hb dL_refused_25 (by decide) ?_
      refine y_icmp_ne hx hb (by decide) (by decide) (tgt := 38) dL_refused_26 (by decide) (fun c26 => ?_) (fun c26 => ?_)
      · refine lv_iload_n hx hb dL_refused_38 rfl (lv_at hl 1 rfl) ?_
        refine lv_iconst (v := nI 3) hx hb dL_refused_39 (by decide) ?_
        refine y_icmp_ne hx hb (by decide) (by decide) (tgt := 53) dL_refused_40 (by decide) (fun c40 => ?_) (fun c40 => ?_)
        · refine lv_iload_n hx hb dL_refused_53 rfl (lv_at hl 1 rfl) ?_
          refine lv_iconst (v := nI 4) hx hb dL_refused_54 (by decide) ?_
          refine y_icmp_ne hx hb (by decide) (by decide) (tgt := 67) dL_refused_55 (by decide) (fun c55 => ?_) (fun c55 => ?_)
          · refine lv_iload_n hx hb dL_refused_67 rfl (lv_at hl 1 rfl) ?_
            refine lv_iconst (v := nI 5) hx hb dL_refused_68 (by decide) ?_
            refine y_icmp_ne hx hb (by decide) (by decide) (tgt := 82) dL_refused_69 (by decide) (fun c69 => ?_) (fun c69 => ?_)
            · refine lv_iload_n hx hb dL_refused_82 rfl (lv_at hl 1 rfl) ?_
              refine lv_bipush (v := nI 6) hx hb dL_refused_83 (by decide) ?_
              refine y_icmp_ne hx hb (by decide) (by decide) (tgt := 97) dL_refused_85 (by decide) (fun c85 => ?_) (fun c85 => ?_)
              · refine lv_iload_n hx hb dL_refused_97 rfl (lv_at hl 1 rfl) ?_
                refine lv_bipush (v := nI 7) hx hb dL_refused_98 (by decide) ?_
                refine y_icmp_ne hx hb (by decide) (by decide) (tgt := 112) dL_refused_100 (by decide) (fun c100 => ?_) (fun c100 => ?_)
                · refine lv_iload_n hx hb dL_refused_112 rfl (lv_at hl 1 rfl) ?_
                  refine lv_bipush (v := nI 8) hx hb dL_refused_113 (by decide) ?_
                  refine y_icmp_ne hx hb (by decide) (by decide) (tgt := 127) dL_refused_115 (by decide) (fun c115 => ?_) (fun c115 => ?_)
                  · refine lv_iload_n hx hb dL_refused_127 rfl (lv_at hl 1 rfl) ?_
                    refine lv_bipush (v := nI 9) hx hb dL_refused_128 (by decide) ?_
                    refine y_icmp_ne hx hb (by decide) (by decide) (tgt := 141) dL_refused_130 (by decide) (fun c130 => ?_) (fun c130 => ?_)
                    · refine lv_iload_n hx hb dL_refused_141 rfl (lv_at hl 1 rfl) ?_
                      refine lv_bipush (v := nI 10) hx hb dL_refused_142 (by decide) ?_
                      refine y_icmp_ne hx hb (by decide) (by decide) (tgt := 154) dL_refused_144 (by decide) (fun c144 => ?_) (fun c144 => ?_)
                      · refine lv_iload_n hx hb dL_refused_154 rfl (lv_at hl 1 rfl) ?_
                        refine lv_bipush (v := nI 11) hx hb dL_refused_155 (by decide) ?_
                        refine y_icmp_ne hx hb (by decide) (by decide) (tgt := 167) dL_refused_157 (by decide) (fun c157 => ?_) (fun c157 => ?_)
                        · exact absurd c157 (by decide)
                        · refine lv_aload_n hx hb dL_refused_160 rfl (lv_at hl 0 rfl) ?_
                          refine k_i (k_V (As := []) (rest := []) ⟨hx, hb, hml, hown, hts⟩ hev hS (u_finish l hst hR hI h8) (cwV 0 hts gL_refused_X6_finish rfl rfl rfl (by decide +kernel) ⟨Nat.le_of_ble_eq_true rfl, Nat.le_of_ble_eq_true rfl⟩) (x_recv hK hX.1 rfl) rfl hl.1 (Nat.le_of_ble_eq_true rfl) dL_refused_161 (Nat.le_of_ble_eq_true rfl) (Nat.le_of_ble_eq_true rfl)) hS (fun E9 ce9 qx Hx locsx hx9 hzx hS h7 h8 h9 => ?_) (fun rq1_ H1 locs1 hP hz1 hS => ?_)
                          · obtain ⟨hm9, hk9⟩ := hx9
                            obtain ⟨hE, hc9⟩ := mem1 hm9
                            · subst hE
                              refine vx_catch (own := RL) (name := "java/lang/IllegalStateException") (E := "java/lang/IllegalStateException") hown (tableOf [(0, 190, 191, 81), (0, 190, 195, 83)]) ⟨0, 190, 199, 85⟩ (tableOf [(0, 190, 203, 87)]) (htb.trans rfl) (PsR.cs (PsR.on (nm := "java/util/NoSuchElementException") (by decide) (hts (.classLink RL 81 "java/util/NoSuchElementException") (by decide +kernel)) (hev.2.2.2.2.1.1.1 ("java/lang/IllegalStateException", "java/util/NoSuchElementException") (by decide +kernel))) (PsR.cs (PsR.on (nm := "java/lang/IllegalArgumentException") (by decide) (hts (.classLink RL 83 "java/lang/IllegalArgumentException") (by decide +kernel)) (hev.2.2.2.2.1.1.1 ("java/lang/IllegalStateException", "java/lang/IllegalArgumentException") (by decide +kernel))) PsR.nl)) (by decide) (by decide) (hts (.classLink RL 85 "java/lang/IllegalStateException") (by decide +kernel)) (va_Nw.use rfl (hev.2.2.2.1 ("java/lang/IllegalStateException", "java/lang/IllegalStateException") (by decide +kernel))) h7 h8 h9 ?_
                              refine lv_astore (lv' := [(4, .ref qx), (0, .ref b0), (1, .int (nI 11)), (2, .int x), (3, .int x2)]) hx hb dL_refused_199 hl (by decide) rfl (fun ls hl => ?_)
                              refine lv_iconst (v := nI 3) hx hb dL_refused_201 (by decide) ?_
                              exact r_i hx hb hrt9 hlk hS (Nat.le_of_ble_eq_true rfl) (Nat.le_of_ble_eq_true rfl) dL_refused_202 (⟨by rw [hc9]; rfl, hk9⟩)
                          -- on
                          exact absurd hP.1 hne
                      · exact absurd c144 (by decide)
                    · exact absurd c130 (by decide)
                  · exact absurd c115 (by decide)
                · exact absurd c100 (by decide)
              · exact absurd c85 (by decide)
            · exact absurd c69 (by decide)
          · exact absurd c55 (by decide)
        · exact absurd c40 (by decide)
      · exact absurd c26 (by decide)
    · exact absurd c13 (by decide)
  · exact absurd c1 (by decide)
set_option maxHeartbeats 4000000 in
set_option maxRecDepth 100000 in
theorem c_L_refused12 (l : Launch) {D : va_G} {T : Nat → ClassId} {dE mi : Nat} (hst : l.stackTraces = false) {A : Nat → Prop} {H : Heap} {b0 bd : Nat} {tg : Nat → Nat} {M : mSt} (hR : RepT D T dE b0 A tg H M) (hI : Inv bd M) (x x2 : Int32) (hne : (oNext M).1 ≠ 0) : vx_Met l yL_refused wsL_refused (rmL 8 1 6) (PcE D T dE mi A H [.ref b0, .int (nI 12), .int x, .int x2]) (QI A (fun r H1 => r = nI (rfw 12 (oNext M).1) ∧ KP H H1)) (XX A (XN)) 1 6 A := by
  refine entryH (hh := [(0, 190, 191, 81), (0, 190, 195, 83), (0, 190, 199, 85), (0, 190, 203, 87)]) (cc := cL_refused) (maxL := 5) (ret := (some .int)) (by decide) rfl (Nat.le_of_ble_eq_true rfl) ?_
  intro p e s m args below meth c hx hb hrt9 hml hown hts hlk htb hnm hev hS ls hl
  have hown : s.vm.findClass RL = some m.cls := hown
  have hK := hev.1
  have hl : lv_has ls 5 [(0, .ref b0), (1, .int (nI 12)), (2, .int x), (3, .int x2)] := hl
  obtain ⟨y, zq, zy, wo, hC, hQ, hY, hW, hwo⟩ := id hR
  have hX := hC.2.1
  refine lv_iload_n hx hb dL_refused_0 rfl (lv_at hl 1 rfl) ?_
  refine y_if_ne hx hb (by decide) (tgt := 11) dL_refused_1 (by decide) (fun c1 => ?_) (fun c1 => ?_)
  · refine lv_iload_n hx hb dL_refused_11 rfl (lv_at hl 1 rfl) ?_
    refine lv_iconst (v := nI 1) hx hb dL_refused_12 (by decide) ?_
    refine y_icmp_ne hx hb (by decide) (by decide) (tgt := 24) dL_refused_13 (by decide) (fun c13 => ?_) (fun c13 => ?_)
    · refine lv_iload_n hx hb dL_refused_24 rfl (lv_at hl 1 rfl) ?_
      refine lv_iconst (v := nI 2) hx hb dL_refused_25 (by decide) ?_
      refine y_icmp_ne hx hb (by decide) (by decide) (tgt := 38) dL_refused_26 (by decide) (fun c26 => ?_) (fun c26 => ?_)
      · refine lv_iload_n hx hb dL_refused_38 rfl (lv_at hl 1 rfl) ?_
        refine lv_iconst (v := nI 3) hx hb dL_refused_39 (by decide) ?_
        refine y_icmp_ne hx hb (by decide) (by decide) (tgt := 53) dL_refused_40 (by decide) (fun c40 => ?_) (fun c40 => ?_)
        · refine lv_iload_n hx hb dL_refused_53 rfl (lv_at hl 1 rfl) ?_
          refine lv_iconst (v := nI 4) hx hb dL_refused_54 (by decide) ?_
          refine y_icmp_ne hx hb (by decide) (by decide) (tgt := 67) dL_refused_55 (by decide) (fun c55 => ?_) (fun c55 => ?_)
          · refine lv_iload_n hx hb dL_refused_67 rfl (lv_at hl 1 rfl) ?_
            refine lv_iconst (v := nI 5) hx hb dL_refused_68 (by decide) ?_
            refine y_icmp_ne hx hb (by decide) (by decide) (tgt := 82) dL_refused_69 (by decide) (fun c69 => ?_) (fun c69 => ?_)
            · refine lv_iload_n hx hb dL_refused_82 rfl (lv_at hl 1 rfl) ?_
              refine lv_bipush (v := nI 6) hx hb dL_refused_83 (by decide) ?_
              refine y_icmp_ne hx hb (by decide) (by decide) (tgt := 97) dL_refused_85 (by decide) (fun c85 => ?_) (fun c85 => ?_)
              · refine lv_iload_n hx hb dL_refused_97 rfl (lv_at hl 1 rfl) ?_
                refine lv_bipush (v := nI 7) hx hb dL_refused_98 (by decide) ?_
                refine y_icmp_ne hx hb (by decide) (by decide) (tgt := 112) dL_refused_100 (by decide) (fun c100 => ?_) (fun c100 => ?_)
                · refine lv_iload_n hx hb dL_refused_112 rfl (lv_at hl 1 rfl) ?_
                  refine lv_bipush (v := nI 8) hx hb dL_refused_113 (by decide) ?_
                  refine y_icmp_ne hx hb (by decide) (by decide) (tgt := 127) dL_refused_115 (by decide) (fun c115 => ?_) (fun c115 => ?_)
                  · refine lv_iload_n hx hb dL_refused_127 rfl (lv_at hl 1 rfl) ?_
                    refine lv_bipush (v := nI 9) hx hb dL_refused_128 (by decide) ?_
                    refine y_icmp_ne hx hb (by decide) (by decide) (tgt := 141) dL_refused_130 (by decide) (fun c130 => ?_) (fun c130 => ?_)
                    · refine lv_iload_n hx hb dL_refused_141 rfl (lv_at hl 1 rfl) ?_
                      refine lv_bipush (v := nI 10) hx hb dL_refused_142 (by decide) ?_
                      refine y_icmp_ne hx hb (by decide) (by decide) (tgt := 154) dL_refused_144 (by decide) (fun c144 => ?_) (fun c144 => ?_)
                      · refine lv_iload_n hx hb dL_refused_154 rfl (lv_at hl 1 rfl) ?_
                        refine lv_bipush (v := nI 11) hx hb dL_refused_155 (by decide) ?_
                        refine y_icmp_ne hx hb (by decide) (by decide) (tgt := 167) dL_refused_157 (by decide) (fun c157 => ?_) (fun c157 => ?_)
                        · refine lv_iload_n hx hb dL_refused_167 rfl (lv_at hl 1 rfl) ?_
                          refine lv_bipush (v := nI 12) hx hb dL_refused_168 (by decide) ?_
                          refine y_icmp_ne hx hb (by decide) (by decide) (tgt := 180) dL_refused_170 (by decide) (fun c170 => ?_) (fun c170 => ?_)
                          · exact absurd c170 (by decide)
                          · refine lv_aload_n hx hb dL_refused_173 rfl (lv_at hl 0 rfl) ?_
                            refine k_i (k_V (As := []) (rest := []) ⟨hx, hb, hml, hown, hts⟩ hev hS (u_next l hst hR hI) (cwV 0 hts gL_refused_X6_next rfl rfl rfl (by decide +kernel) ⟨Nat.le_of_ble_eq_true rfl, Nat.le_of_ble_eq_true rfl⟩) (x_recv hK hX.1 rfl) rfl hl.1 (Nat.le_of_ble_eq_true rfl) dL_refused_174 (Nat.le_of_ble_eq_true rfl) (Nat.le_of_ble_eq_true rfl)) hS (fun E9 ce9 qx Hx locsx hx9 hzx hS h7 h8 h9 => ?_) (fun rq1_ H1 locs1 hP hz1 hS => ?_)
                            · obtain ⟨hm9, hk9⟩ := hx9
                              obtain ⟨hE, hc9⟩ := mem1 hm9
                              · subst hE
                                refine vx_catch (own := RL) (name := "java/lang/IllegalStateException") (E := "java/lang/IllegalStateException") hown (tableOf [(0, 190, 191, 81), (0, 190, 195, 83)]) ⟨0, 190, 199, 85⟩ (tableOf [(0, 190, 203, 87)]) (htb.trans rfl) (PsR.cs (PsR.on (nm := "java/util/NoSuchElementException") (by decide) (hts (.classLink RL 81 "java/util/NoSuchElementException") (by decide +kernel)) (hev.2.2.2.2.1.1.1 ("java/lang/IllegalStateException", "java/util/NoSuchElementException") (by decide +kernel))) (PsR.cs (PsR.on (nm := "java/lang/IllegalArgumentException") (by decide) (hts (.classLink RL 83 "java/lang/IllegalArgumentException") (by decide +kernel)) (hev.2.2.2.2.1.1.1 ("java/lang/IllegalStateException", "java/lang/IllegalArgumentException") (by decide +kernel))) PsR.nl)) (by decide) (by decide) (hts (.classLink RL 85 "java/lang/IllegalStateException") (by decide +kernel)) (va_Nw.use rfl (hev.2.2.2.1 ("java/lang/IllegalStateException", "java/lang/IllegalStateException") (by decide +kernel))) h7 h8 h9 ?_
                                refine lv_astore (lv' := [(4, .ref qx), (0, .ref b0), (1, .int (nI 12)), (2, .int x), (3, .int x2)]) hx hb dL_refused_199 hl (by decide) rfl (fun ls hl => ?_)
                                refine lv_iconst (v := nI 3) hx hb dL_refused_201 (by decide) ?_
                                exact r_i hx hb hrt9 hlk hS (Nat.le_of_ble_eq_true rfl) (Nat.le_of_ble_eq_true rfl) dL_refused_202 (⟨by rw [hc9]; rfl, hk9⟩)
                            -- on
                            exact absurd hP.1 hne
                        · exact absurd c157 (by decide)
                      · exact absurd c144 (by decide)
                    · exact absurd c130 (by decide)
                  · exact absurd c115 (by decide)
                · exact absurd c100 (by decide)
              · exact absurd c85 (by decide)
            · exact absurd c69 (by decide)
          · exact absurd c55 (by decide)
        · exact absurd c40 (by decide)
      · exact absurd c26 (by decide)
    · exact absurd c13 (by decide)
  · exact absurd c1 (by decide)
set_option maxHeartbeats 4000000 in
set_option maxRecDepth 100000 in
theorem c_L_refused13 (l : Launch) {D : va_G} {T : Nat → ClassId} {dE mi : Nat} (hst : l.stackTraces = false) {A : Nat → Prop} {H : Heap} {b0 bd : Nat} {tg : Nat → Nat} {M : mSt} (hR : RepT D T dE b0 A tg H M) (hI : Inv bd M) (x x2 : Int32) (hne : (oDefer M x (nI 0) (nI 0) (nI 0)).1 ≠ 0) : vx_Met l yL_refused wsL_refused (rmL 9 3 83) (PcE D T dE mi A H [.ref b0, .int (nI 13), .int x, .int x2]) (QI A (fun r H1 => r = nI (rfw 13 (oDefer M x (nI 0) (nI 0) (nI 0)).1) ∧ KP H H1)) (XX A (XN)) 3 83 A := by
  refine entryH (hh := [(0, 190, 191, 81), (0, 190, 195, 83), (0, 190, 199, 85), (0, 190, 203, 87)]) (cc := cL_refused) (maxL := 5) (ret := (some .int)) (by decide) rfl (Nat.le_of_ble_eq_true rfl) ?_
  intro p e s m args below meth c hx hb hrt9 hml hown hts hlk htb hnm hev hS ls hl
  have hown : s.vm.findClass RL = some m.cls := hown
  have hK := hev.1
  have hl : lv_has ls 5 [(0, .ref b0), (1, .int (nI 13)), (2, .int x), (3, .int x2)] := hl
  obtain ⟨y, zq, zy, wo, hC, hQ, hY, hW, hwo⟩ := id hR
  have hX := hC.2.1
  refine lv_iload_n hx hb dL_refused_0 rfl (lv_at hl 1 rfl) ?_
  refine y_if_ne hx hb (by decide) (tgt := 11) dL_refused_1 (by decide) (fun c1 => ?_) (fun c1 => ?_)
  · refine lv_iload_n hx hb dL_refused_11 rfl (lv_at hl 1 rfl) ?_
    refine lv_iconst (v := nI 1) hx hb dL_refused_12 (by decide) ?_
    refine y_icmp_ne hx hb (by decide) (by decide) (tgt := 24) dL_refused_13 (by decide) (fun c13 => ?_) (fun c13 => ?_)
    · refine lv_iload_n hx hb dL_refused_24 rfl (lv_at hl 1 rfl) ?_
      refine lv_iconst (v := nI 2) hx hb dL_refused_25 (by decide) ?_
      refine y_icmp_ne hx hb (by decide) (by decide) (tgt := 38) dL_refused_26 (by decide) (fun c26 => ?_) (fun c26 => ?_)
      · refine lv_iload_n hx hb dL_refused_38 rfl (lv_at hl 1 rfl) ?_
        refine lv_iconst (v := nI 3) hx hb dL_refused_39 (by decide) ?_
        refine y_icmp_ne hx hb (by decide) (by decide) (tgt := 53) dL_refused_40 (by decide) (fun c40 => ?_) (fun c40 => ?_)
        · refine lv_iload_n hx hb dL_refused_53 rfl (lv_at hl 1 rfl) ?_
          refine lv_iconst (v := nI 4) hx hb dL_refused_54 (by decide) ?_
          refine y_icmp_ne hx hb (by decide) (by decide) (tgt := 67) dL_refused_55 (by decide) (fun c55 => ?_) (fun c55 => ?_)
          · refine lv_iload_n hx hb dL_refused_67 rfl (lv_at hl 1 rfl) ?_
            refine lv_iconst (v := nI 5) hx hb dL_refused_68 (by decide) ?_
            refine y_icmp_ne hx hb (by decide) (by decide) (tgt := 82) dL_refused_69 (by decide) (fun c69 => ?_) (fun c69 => ?_)
            · refine lv_iload_n hx hb dL_refused_82 rfl (lv_at hl 1 rfl) ?_
              refine lv_bipush (v := nI 6) hx hb dL_refused_83 (by decide) ?_
              refine y_icmp_ne hx hb (by decide) (by decide) (tgt := 97) dL_refused_85 (by decide) (fun c85 => ?_) (fun c85 => ?_)
              · refine lv_iload_n hx hb dL_refused_97 rfl (lv_at hl 1 rfl) ?_
                refine lv_bipush (v := nI 7) hx hb dL_refused_98 (by decide) ?_
                refine y_icmp_ne hx hb (by decide) (by decide) (tgt := 112) dL_refused_100 (by decide) (fun c100 => ?_) (fun c100 => ?_)
                · refine lv_iload_n hx hb dL_refused_112 rfl (lv_at hl 1 rfl) ?_
                  refine lv_bipush (v := nI 8) hx hb dL_refused_113 (by decide) ?_
                  refine y_icmp_ne hx hb (by decide) (by decide) (tgt := 127) dL_refused_115 (by decide) (fun c115 => ?_) (fun c115 => ?_)
                  · refine lv_iload_n hx hb dL_refused_127 rfl (lv_at hl 1 rfl) ?_
                    refine lv_bipush (v := nI 9) hx hb dL_refused_128 (by decide) ?_
                    refine y_icmp_ne hx hb (by decide) (by decide) (tgt := 141) dL_refused_130 (by decide) (fun c130 => ?_) (fun c130 => ?_)
                    · refine lv_iload_n hx hb dL_refused_141 rfl (lv_at hl 1 rfl) ?_
                      refine lv_bipush (v := nI 10) hx hb dL_refused_142 (by decide) ?_
                      refine y_icmp_ne hx hb (by decide) (by decide) (tgt := 154) dL_refused_144 (by decide) (fun c144 => ?_) (fun c144 => ?_)
                      · refine lv_iload_n hx hb dL_refused_154 rfl (lv_at hl 1 rfl) ?_
                        refine lv_bipush (v := nI 11) hx hb dL_refused_155 (by decide) ?_
                        refine y_icmp_ne hx hb (by decide) (by decide) (tgt := 167) dL_refused_157 (by decide) (fun c157 => ?_) (fun c157 => ?_)
                        · refine lv_iload_n hx hb dL_refused_167 rfl (lv_at hl 1 rfl) ?_
                          refine lv_bipush (v := nI 12) hx hb dL_refused_168 (by decide) ?_
                          refine y_icmp_ne hx hb (by decide) (by decide) (tgt := 180) dL_refused_170 (by decide) (fun c170 => ?_) (fun c170 => ?_)
                          · refine lv_aload_n hx hb dL_refused_180 rfl (lv_at hl 0 rfl) ?_
                            refine lv_iload_n hx hb dL_refused_181 rfl (lv_at hl 2 rfl) ?_
                            refine lv_iconst (v := nI 0) hx hb dL_refused_182 (by decide) ?_
                            refine lv_iconst (v := nI 0) hx hb dL_refused_183 (by decide) ?_
                            refine lv_iconst (v := nI 0) hx hb dL_refused_184 (by decide) ?_
                            refine k_i (k_V (As := [.int x, .int (nI 0), .int (nI 0), .int (nI 0)]) (rest := []) ⟨hx, hb, hml, hown, hts⟩ hev hS (u_defer l hst hR hI x (nI 0) (nI 0) (nI 0)) (cwV 4 hts gL_refused_X6_defer rfl rfl rfl (by decide +kernel) ⟨Nat.le_of_ble_eq_true rfl, Nat.le_of_ble_eq_true rfl⟩) (x_recv hK hX.1 rfl) rfl hl.1 (Nat.le_of_ble_eq_true rfl) dL_refused_185 (Nat.le_of_ble_eq_true rfl) (Nat.le_of_ble_eq_true rfl)) hS (fun E9 ce9 qx Hx locsx hx9 hzx hS h7 h8 h9 => ?_) (fun rq1_ H1 locs1 hP hz1 hS => ?_)
                            · obtain ⟨hm9, hk9⟩ := hx9
                              rcases mem2 hm9 with ⟨hE, hc9⟩ | ⟨hE, hc9⟩
                              · subst hE
                                refine vx_catch (own := RL) (name := "java/lang/IllegalArgumentException") (E := "java/lang/IllegalArgumentException") hown (tableOf [(0, 190, 191, 81)]) ⟨0, 190, 195, 83⟩ (tableOf [(0, 190, 199, 85), (0, 190, 203, 87)]) (htb.trans rfl) (PsR.cs (PsR.on (nm := "java/util/NoSuchElementException") (by decide) (hts (.classLink RL 81 "java/util/NoSuchElementException") (by decide +kernel)) (hev.2.2.2.2.1.1.1 ("java/lang/IllegalArgumentException", "java/util/NoSuchElementException") (by decide +kernel))) PsR.nl) (by decide) (by decide) (hts (.classLink RL 83 "java/lang/IllegalArgumentException") (by decide +kernel)) (va_Nw.use rfl (hev.2.2.2.1 ("java/lang/IllegalArgumentException", "java/lang/IllegalArgumentException") (by decide +kernel))) h7 h8 h9 ?_
                                refine lv_astore (lv' := [(4, .ref qx), (0, .ref b0), (1, .int (nI 13)), (2, .int x), (3, .int x2)]) hx hb dL_refused_195 hl (by decide) rfl (fun ls hl => ?_)
                                refine lv_iconst (v := nI 2) hx hb dL_refused_197 (by decide) ?_
                                exact r_i hx hb hrt9 hlk hS (Nat.le_of_ble_eq_true rfl) (Nat.le_of_ble_eq_true rfl) dL_refused_198 (⟨by rw [hc9]; rfl, hk9⟩)
                              · subst hE
                                refine vx_catch (own := RL) (name := "java/lang/IllegalStateException") (E := "java/lang/IllegalStateException") hown (tableOf [(0, 190, 191, 81), (0, 190, 195, 83)]) ⟨0, 190, 199, 85⟩ (tableOf [(0, 190, 203, 87)]) (htb.trans rfl) (PsR.cs (PsR.on (nm := "java/util/NoSuchElementException") (by decide) (hts (.classLink RL 81 "java/util/NoSuchElementException") (by decide +kernel)) (hev.2.2.2.2.1.1.1 ("java/lang/IllegalStateException", "java/util/NoSuchElementException") (by decide +kernel))) (PsR.cs (PsR.on (nm := "java/lang/IllegalArgumentException") (by decide) (hts (.classLink RL 83 "java/lang/IllegalArgumentException") (by decide +kernel)) (hev.2.2.2.2.1.1.1 ("java/lang/IllegalStateException", "java/lang/IllegalArgumentException") (by decide +kernel))) PsR.nl)) (by decide) (by decide) (hts (.classLink RL 85 "java/lang/IllegalStateException") (by decide +kernel)) (va_Nw.use rfl (hev.2.2.2.1 ("java/lang/IllegalStateException", "java/lang/IllegalStateException") (by decide +kernel))) h7 h8 h9 ?_
                                refine lv_astore (lv' := [(4, .ref qx), (0, .ref b0), (1, .int (nI 13)), (2, .int x), (3, .int x2)]) hx hb dL_refused_199 hl (by decide) rfl (fun ls hl => ?_)
                                refine lv_iconst (v := nI 3) hx hb dL_refused_201 (by decide) ?_
                                exact r_i hx hb hrt9 hlk hS (Nat.le_of_ble_eq_true rfl) (Nat.le_of_ble_eq_true rfl) dL_refused_202 (⟨by rw [hc9]; rfl, hk9⟩)
                            -- on
                            exact absurd hP.1 hne
                          · exact absurd c170 (by decide)
                        · exact absurd c157 (by decide)
                      · exact absurd c144 (by decide)
                    · exact absurd c130 (by decide)
                  · exact absurd c115 (by decide)
                · exact absurd c100 (by decide)
              · exact absurd c85 (by decide)
            · exact absurd c69 (by decide)
          · exact absurd c55 (by decide)
        · exact absurd c40 (by decide)
      · exact absurd c26 (by decide)
    · exact absurd c13 (by decide)
  · exact absurd c1 (by decide)

/-! the class's store and the law's own arrays, side by side -/
def PK (D : va_G) (T : Nat → ClassId) (dE b0 : Nat) (A : Nat → Prop) (g : Nat) (Y : Nat → Nat → Int32) (M : mSt) (H : Heap) : Prop := ∃ tg : Nat → Nat, RepT D T dE b0 A tg H M ∧ SL T g Y H ∧ ∀ q, AS g q → tg q = 8
section PKS
variable {D : va_G} {T : Nat → ClassId} {dE b0 : Nat} {A : Nat → Prop} {g : Nat} {Y Y1 : Nat → Nat → Int32} {M M1 : mSt} {H H1 : Heap} {tg : Nat → Nat}
theorem PK.of (hR : RepT D T dE b0 A tg H M) (hL : SL T g Y H) (h8 : ∀ q, AS g q → tg q = 8) (hx : RXn D T dE b0 A tg H H1 M1) : PK D T dE b0 A g Y M1 H1 := by
  obtain ⟨tg1, hR1, tx, fr⟩ := hx
  have hlt := hL.lt
  exact ⟨tg1, hR1, hL.kept (fun q h1 h2 => fr.2 q (by omega) (by rw [h8 q ⟨h1, h2⟩]; decide)), fun q hq => (tx q (by have := hq.2; omega)).trans (h8 q hq)⟩
theorem PK.kp (hP : PK D T dE b0 A g Y M H) (hk : KP H H1) : PK D T dE b0 A g Y M H1 := by
  obtain ⟨tg, hR, hL, h8⟩ := hP
  have hlt := hL.lt
  exact ⟨tg, hR.kp hk, hL.kept (fun q h1 h2 => hk.2 q (by omega)), h8⟩
theorem PK.w (hP : PK D T dE b0 A g Y M H) (hL1 : SL T g Y1 H1) (hz : H.size ≤ H1.size) (hk : ∀ q : Nat, q < H.size → ¬ AS g q → H1[q]? = H[q]?) : PK D T dE b0 A g Y1 M H1 := by
  obtain ⟨tg, hR, hL, h8⟩ := hP
  exact ⟨tg, hR.out (w := 8) ⟨hz, fun q h1 h2 => hk q h1 (fun z => h2 (h8 q z))⟩ (Or.inr rfl), hL1, h8⟩
theorem PK.sl (hP : PK D T dE b0 A g Y M H) : SL T g Y H := by
  obtain ⟨tg, hR, hL, h8⟩ := hP
  exact hL
theorem PK.oc (hP : PK D T dE b0 A g Y M H) : ∃ fs, oc D H b0 9 fs := by
  obtain ⟨tg, ⟨y, zq, zy, wo, hC, hQ, hY, hW, hwo⟩, hL, h8⟩ := hP
  exact ⟨_, hC.2.1.1⟩
theorem PK.as (hP : PK D T dE b0 A g Y M H) : ∀ q, AS g q → A q := by
  obtain ⟨tg, hR, hL, h8⟩ := hP
  have hlt := hL.lt
  exact fun q hq => hR.tg.a (h8 q hq) (by decide)
end PKS
theorem pk_recv {s : State} {D : va_G} {T : Nat → ClassId} {dE b0 : Nat} {A : Nat → Prop} {g : Nat} {Y : Nat → Nat → Int32} {M : mSt} {H : Heap} (hK : va_K D vwCl (tysT T) s) (hP : PK D T dE b0 A g Y M H) : ∃ cell : Cell, H[b0]? = some cell ∧ cell.vm.isStatics = false ∧ s.vm.findClass "Archeloft" = some cell.cls := by
  obtain ⟨fs, ho⟩ := hP.oc
  exact x_recv hK ho rfl
theorem w_make (l : Launch) {D : va_G} {T : Nat → ClassId} {dE mi : Nat} (hst : l.stackTraces = false) {A : Nat → Prop} {g b0 bd : Nat} {Y : Nat → Nat → Int32} {M : mSt} {H : Heap} (hPK : PK D T dE b0 A g Y M H) (hI : Inv bd M) (hc : (oMake M).1 = 0) : vx_Met l yX6_make wsX6_make (rmL 9 6 123) (PcE D T dE mi A H [.ref b0]) (QI A (fun r H1 => r = (oMake M).2.1 ∧ PK D T dE b0 A g Y (oMake M).2.2 H1)) (XX A XN) 6 123 A := by
  obtain ⟨tg, hR, hL, h8g⟩ := hPK
  exact vq_i (u_make l hst hR hI) (fun r H1 h => ⟨h.2.1, PK.of hR hL h8g h.2.2⟩) (fun E9 H1 h => by rw [hc] at h; exact absurd h.1 (by simp))
theorem w_end (l : Launch) {D : va_G} {T : Nat → ClassId} {dE mi : Nat} (hst : l.stackTraces = false) {A : Nat → Prop} {g b0 bd : Nat} {Y : Nat → Nat → Int32} {M : mSt} {H : Heap} (hPK : PK D T dE b0 A g Y M H) (hI : Inv bd M) (x : Int32) (hc : (oEnd M x).1 = 0) : vx_Met l yX6_end wsX6_end (rmL 9 7 95) (PcE D T dE mi A H [.ref b0, .int x]) (QI A (fun r H1 => r = (oEnd M x).2.1 ∧ PK D T dE b0 A g Y (oEnd M x).2.2 H1)) (XX A XN) 7 95 A := by
  obtain ⟨tg, hR, hL, h8g⟩ := hPK
  exact vq_i (u_end l hst hR hI x) (fun r H1 h => ⟨h.2.1, PK.of hR hL h8g h.2.2⟩) (fun E9 H1 h => by rw [hc] at h; exact absurd h.1 (by simp))
theorem w_adopt (l : Launch) {D : va_G} {T : Nat → ClassId} {dE mi : Nat} (hst : l.stackTraces = false) {A : Nat → Prop} {g b0 bd : Nat} {Y : Nat → Nat → Int32} {M : mSt} {H : Heap} (hPK : PK D T dE b0 A g Y M H) (hI : Inv bd M) (x x2 : Int32) (hc : (oAdopt M x x2).1 = 0) : vx_Met l yX6_adopt wsX6_adopt (rmL 7 4 24) (PcE D T dE mi A H [.ref b0, .int x, .int x2]) (QI A (fun r H1 => r = (oAdopt M x x2).2.1 ∧ PK D T dE b0 A g Y (oAdopt M x x2).2.2 H1)) (XX A XN) 4 24 A := by
  obtain ⟨tg, hR, hL, h8g⟩ := hPK
  exact vq_i (u_adopt l hst hR hI x x2) (fun r H1 h => ⟨h.2.1, PK.of hR hL h8g h.2.2⟩) (fun E9 H1 h => by rw [hc] at h; exact absurd h.1 (by simp))
theorem w_add (l : Launch) {D : va_G} {T : Nat → ClassId} {dE mi : Nat} (hst : l.stackTraces = false) {A : Nat → Prop} {g b0 bd : Nat} {Y : Nat → Nat → Int32} {M : mSt} {H : Heap} (hPK : PK D T dE b0 A g Y M H) (hI : Inv bd M) (x kd v : Int32) (hc : (oAdd M x kd v).1 = 0) : vx_Met l yX6_add wsX6_add (rmL 10 7 129) (PcE D T dE mi A H [.ref b0, .int x, .int kd, .int v]) (QI A (fun r H1 => r = (oAdd M x kd v).2.1 ∧ PK D T dE b0 A g Y (oAdd M x kd v).2.2 H1)) (XX A XN) 7 129 A := by
  obtain ⟨tg, hR, hL, h8g⟩ := hPK
  exact vq_i (u_add l hst hR hI x kd v) (fun r H1 h => ⟨h.2.1, PK.of hR hL h8g h.2.2⟩) (fun E9 H1 h => by rw [hc] at h; exact absurd h.1 (by simp))
theorem w_take (l : Launch) {D : va_G} {T : Nat → ClassId} {dE mi : Nat} (hst : l.stackTraces = false) {A : Nat → Prop} {g b0 bd : Nat} {Y : Nat → Nat → Int32} {M : mSt} {H : Heap} (hPK : PK D T dE b0 A g Y M H) (hI : Inv bd M) (x kd : Int32) (hc : (oTake M x kd).1 = 0) : vx_Met l yX6_take wsX6_take (rmL 10 8 135) (PcE D T dE mi A H [.ref b0, .int x, .int kd]) (QI A (fun r H1 => r = (oTake M x kd).2.1 ∧ PK D T dE b0 A g Y (oTake M x kd).2.2 H1)) (XX A XN) 8 135 A := by
  obtain ⟨tg, hR, hL, h8g⟩ := hPK
  exact vq_i (u_take l hst hR hI x kd) (fun r H1 h => ⟨h.2.1, PK.of hR hL h8g h.2.2⟩) (fun E9 H1 h => by rw [hc] at h; exact absurd h.1 (by simp))
theorem w_entities (l : Launch) {D : va_G} {T : Nat → ClassId} {dE mi : Nat} (hst : l.stackTraces = false) {A : Nat → Prop} {g b0 bd : Nat} {Y : Nat → Nat → Int32} {M : mSt} {H : Heap} (hPK : PK D T dE b0 A g Y M H) (hI : Inv bd M) : vx_Met l yX6_entities wsX6_entities (rmL 0 0 0) (PcE D T dE mi A H [.ref b0]) (QI A (fun r H1 => r = (oEntities M).2.1 ∧ PK D T dE b0 A g Y (oEntities M).2.2 H1)) (XX A XN) 0 0 A := by
  obtain ⟨tg, hR, hL, h8g⟩ := hPK
  exact vq_i (u_entities l hst hR hI) (fun r H1 h => ⟨h.2.1, PK.of hR hL h8g h.2.2⟩) (fun _ _ h => h)
theorem w_isThere (l : Launch) {D : va_G} {T : Nat → ClassId} {dE mi : Nat} (hst : l.stackTraces = false) {A : Nat → Prop} {g b0 bd : Nat} {Y : Nat → Nat → Int32} {M : mSt} {H : Heap} (hPK : PK D T dE b0 A g Y M H) (hI : Inv bd M) (x : Int32) : vx_Met l yX6_isThere wsX6_isThere (rmL 1 0 0) (PcE D T dE mi A H [.ref b0, .int x]) (QI A (fun r H1 => r = (oIsThere M x).2.1 ∧ PK D T dE b0 A g Y (oIsThere M x).2.2 H1)) (XX A XN) 0 0 A := by
  obtain ⟨tg, hR, hL, h8g⟩ := hPK
  exact vq_i (u_isThere l hst hR hI x) (fun r H1 h => ⟨h.2.1, PK.of hR hL h8g h.2.2⟩) (fun _ _ h => h)
theorem w_rows (l : Launch) {D : va_G} {T : Nat → ClassId} {dE mi : Nat} (hst : l.stackTraces = false) {A : Nat → Prop} {g b0 bd : Nat} {Y : Nat → Nat → Int32} {M : mSt} {H : Heap} (hPK : PK D T dE b0 A g Y M H) (hI : Inv bd M) : vx_Met l yX6_rows wsX6_rows (rmL 1 0 0) (PcE D T dE mi A H [.ref b0]) (QI A (fun r H1 => r = (oRows M).2.1 ∧ PK D T dE b0 A g Y (oRows M).2.2 H1)) (XX A XN) 0 0 A := by
  obtain ⟨tg, hR, hL, h8g⟩ := hPK
  exact vq_i (u_rows l hst hR hI) (fun r H1 h => ⟨h.2.1, PK.of hR hL h8g h.2.2⟩) (fun _ _ h => h)
theorem w_stages (l : Launch) {D : va_G} {T : Nat → ClassId} {dE mi : Nat} (hst : l.stackTraces = false) {A : Nat → Prop} {g b0 bd : Nat} {Y : Nat → Nat → Int32} {M : mSt} {H : Heap} (hPK : PK D T dE b0 A g Y M H) (hI : Inv bd M) : vx_Met l yX6_stages wsX6_stages (rmL 3 0 0) (PcE D T dE mi A H [.ref b0]) (QI A (fun r H1 => r = (oStages M).2.1 ∧ PK D T dE b0 A g Y (oStages M).2.2 H1)) (XX A XN) 0 0 A := by
  obtain ⟨tg, hR, hL, h8g⟩ := hPK
  exact vq_i (u_stages l hst hR hI) (fun r H1 h => ⟨h.2.1, PK.of hR hL h8g h.2.2⟩) (fun _ _ h => h)
theorem w_tick (l : Launch) {D : va_G} {T : Nat → ClassId} {dE mi : Nat} (hst : l.stackTraces = false) {A : Nat → Prop} {g b0 bd : Nat} {Y : Nat → Nat → Int32} {M : mSt} {H : Heap} (hPK : PK D T dE b0 A g Y M H) (hI : Inv bd M) : vx_Met l yX6_tick wsX6_tick (rmL 0 0 0) (PcE D T dE mi A H [.ref b0]) (QI A (fun r H1 => r = (oTick M).2.1 ∧ PK D T dE b0 A g Y (oTick M).2.2 H1)) (XX A XN) 0 0 A := by
  obtain ⟨tg, hR, hL, h8g⟩ := hPK
  exact vq_i (u_tick l hst hR hI) (fun r H1 h => ⟨h.2.1, PK.of hR hL h8g h.2.2⟩) (fun _ _ h => h)
theorem w_children (l : Launch) {D : va_G} {T : Nat → ClassId} {dE mi : Nat} (hst : l.stackTraces = false) {A : Nat → Prop} {g b0 bd : Nat} {Y : Nat → Nat → Int32} {M : mSt} {H : Heap} (hPK : PK D T dE b0 A g Y M H) (hI : Inv bd M) (x : Int32) (hc : (oChildren M x).1 = 0) : vx_Met l yX6_children wsX6_children (rmL 7 1 6) (PcE D T dE mi A H [.ref b0, .int x]) (QI A (fun r H1 => r = (oChildren M x).2.1 ∧ PK D T dE b0 A g Y (oChildren M x).2.2 H1)) (XX A XN) 1 6 A := by
  obtain ⟨tg, hR, hL, h8g⟩ := hPK
  exact vq_i (u_children l hst hR hI x) (fun r H1 h => ⟨h.2.1, PK.of hR hL h8g h.2.2⟩) (fun E9 H1 h => by rw [hc] at h; exact absurd h.1 (by simp))
theorem w_kinds (l : Launch) {D : va_G} {T : Nat → ClassId} {dE mi : Nat} (hst : l.stackTraces = false) {A : Nat → Prop} {g b0 bd : Nat} {Y : Nat → Nat → Int32} {M : mSt} {H : Heap} (hPK : PK D T dE b0 A g Y M H) (hI : Inv bd M) (x : Int32) (hc : (oKinds M x).1 = 0) : vx_Met l yX6_kinds wsX6_kinds (rmL 7 1 6) (PcE D T dE mi A H [.ref b0, .int x]) (QI A (fun r H1 => r = (oKinds M x).2.1 ∧ PK D T dE b0 A g Y (oKinds M x).2.2 H1)) (XX A XN) 1 6 A := by
  obtain ⟨tg, hR, hL, h8g⟩ := hPK
  exact vq_i (u_kinds l hst hR hI x) (fun r H1 h => ⟨h.2.1, PK.of hR hL h8g h.2.2⟩) (fun E9 H1 h => by rw [hc] at h; exact absurd h.1 (by simp))
theorem w_value (l : Launch) {D : va_G} {T : Nat → ClassId} {dE mi : Nat} (hst : l.stackTraces = false) {A : Nat → Prop} {g b0 bd : Nat} {Y : Nat → Nat → Int32} {M : mSt} {H : Heap} (hPK : PK D T dE b0 A g Y M H) (hI : Inv bd M) (x kd : Int32) (hc : (oValue M x kd).1 = 0) : vx_Met l yX6_value wsX6_value (rmL 8 3 18) (PcE D T dE mi A H [.ref b0, .int x, .int kd]) (QI A (fun r H1 => r = (oValue M x kd).2.1 ∧ PK D T dE b0 A g Y (oValue M x kd).2.2 H1)) (XX A XN) 3 18 A := by
  obtain ⟨tg, hR, hL, h8g⟩ := hPK
  exact vq_i (u_value l hst hR hI x kd) (fun r H1 h => ⟨h.2.1, PK.of hR hL h8g h.2.2⟩) (fun E9 H1 h => by rw [hc] at h; exact absurd h.1 (by simp))
theorem w_mark (l : Launch) {D : va_G} {T : Nat → ClassId} {dE mi : Nat} (hst : l.stackTraces = false) {A : Nat → Prop} {g b0 bd : Nat} {Y : Nat → Nat → Int32} {M : mSt} {H : Heap} (hPK : PK D T dE b0 A g Y M H) (hI : Inv bd M) (x kd : Int32) (hc : (oMark M x kd).1 = 0) : vx_Met l yX6_mark wsX6_mark (rmL 8 3 18) (PcE D T dE mi A H [.ref b0, .int x, .int kd]) (QI A (fun r H1 => r = (oMark M x kd).2.1 ∧ PK D T dE b0 A g Y (oMark M x kd).2.2 H1)) (XX A XN) 3 18 A := by
  obtain ⟨tg, hR, hL, h8g⟩ := hPK
  exact vq_i (u_mark l hst hR hI x kd) (fun r H1 h => ⟨h.2.1, PK.of hR hL h8g h.2.2⟩) (fun E9 H1 h => by rw [hc] at h; exact absurd h.1 (by simp))
theorem w_set (l : Launch) {D : va_G} {T : Nat → ClassId} {dE mi : Nat} (hst : l.stackTraces = false) {A : Nat → Prop} {g b0 bd : Nat} {Y : Nat → Nat → Int32} {M : mSt} {H : Heap} (hPK : PK D T dE b0 A g Y M H) (hI : Inv bd M) (x kd v : Int32) (hc : (oSet M x kd v).1 = 0) : vx_Met l yX6_set wsX6_set (rmL 8 3 18) (PcE D T dE mi A H [.ref b0, .int x, .int kd, .int v]) (QI A (fun r H1 => r = (oSet M x kd v).2.1 ∧ PK D T dE b0 A g Y (oSet M x kd v).2.2 H1)) (XX A XN) 3 18 A := by
  obtain ⟨tg, hR, hL, h8g⟩ := hPK
  exact vq_i (u_set l hst hR hI x kd v) (fun r H1 h => ⟨h.2.1, PK.of hR hL h8g h.2.2⟩) (fun E9 H1 h => by rw [hc] at h; exact absurd h.1 (by simp))
theorem w_setOf (l : Launch) {D : va_G} {T : Nat → ClassId} {dE mi : Nat} (hst : l.stackTraces = false) {A : Nat → Prop} {g b0 bd : Nat} {Y : Nat → Nat → Int32} {M : mSt} {H : Heap} (hPK : PK D T dE b0 A g Y M H) (hI : Inv bd M) (x : Int32) (hc : (oSetOf M x).1 = 0) : vx_Met l yX6_setOf wsX6_setOf (rmL 7 1 6) (PcE D T dE mi A H [.ref b0, .int x]) (QI A (fun r H1 => r = (oSetOf M x).2.1 ∧ PK D T dE b0 A g Y (oSetOf M x).2.2 H1)) (XX A XN) 1 6 A := by
  obtain ⟨tg, hR, hL, h8g⟩ := hPK
  exact vq_i (u_setOf l hst hR hI x) (fun r H1 h => ⟨h.2.1, PK.of hR hL h8g h.2.2⟩) (fun E9 H1 h => by rw [hc] at h; exact absurd h.1 (by simp))
theorem w_size (l : Launch) {D : va_G} {T : Nat → ClassId} {dE mi : Nat} (hst : l.stackTraces = false) {A : Nat → Prop} {g b0 bd : Nat} {Y : Nat → Nat → Int32} {M : mSt} {H : Heap} (hPK : PK D T dE b0 A g Y M H) (hI : Inv bd M) (x : Int32) (hc : (oSize M x).1 = 0) : vx_Met l yX6_size wsX6_size (rmL 7 1 6) (PcE D T dE mi A H [.ref b0, .int x]) (QI A (fun r H1 => r = (oSize M x).2.1 ∧ PK D T dE b0 A g Y (oSize M x).2.2 H1)) (XX A XN) 1 6 A := by
  obtain ⟨tg, hR, hL, h8g⟩ := hPK
  exact vq_i (u_size l hst hR hI x) (fun r H1 h => ⟨h.2.1, PK.of hR hL h8g h.2.2⟩) (fun E9 H1 h => by rw [hc] at h; exact absurd h.1 (by simp))
theorem w_entityAt (l : Launch) {D : va_G} {T : Nat → ClassId} {dE mi : Nat} (hst : l.stackTraces = false) {A : Nat → Prop} {g b0 bd : Nat} {Y : Nat → Nat → Int32} {M : mSt} {H : Heap} (hPK : PK D T dE b0 A g Y M H) (hI : Inv bd M) (x x2 : Int32) (hc : (oEntityAt M x x2).1 = 0) : vx_Met l yX6_entityAt wsX6_entityAt (rmL 7 2 12) (PcE D T dE mi A H [.ref b0, .int x, .int x2]) (QI A (fun r H1 => r = (oEntityAt M x x2).2.1 ∧ PK D T dE b0 A g Y (oEntityAt M x x2).2.2 H1)) (XX A XN) 2 12 A := by
  obtain ⟨tg, hR, hL, h8g⟩ := hPK
  exact vq_i (u_entityAt l hst hR hI x x2) (fun r H1 h => ⟨h.2.1, PK.of hR hL h8g h.2.2⟩) (fun E9 H1 h => by rw [hc] at h; exact absurd h.1 (by simp))
theorem w_question (l : Launch) {D : va_G} {T : Nat → ClassId} {dE mi : Nat} (hst : l.stackTraces = false) {A : Nat → Prop} {g b0 bd : Nat} {Y : Nat → Nat → Int32} {M : mSt} {H : Heap} (hPK : PK D T dE b0 A g Y M H) (hI : Inv bd M) (x1 x2 x3 : Int32) (hc : (oQuestion M x1 x2 x3).1 = 0) : vx_Met l yX6_question wsX6_question (rmL 8 5 94) (PcE D T dE mi A H [.ref b0, .int x1, .int x2, .int x3]) (QI A (fun r H1 => r = (oQuestion M x1 x2 x3).2.1 ∧ PK D T dE b0 A g Y (oQuestion M x1 x2 x3).2.2 H1)) (XX A XN) 5 94 A := by
  obtain ⟨tg, hR, hL, h8g⟩ := hPK
  exact vq_i (u_question l hst hR hI x1 x2 x3) (fun r H1 h => ⟨h.2.1, PK.of hR hL h8g h.2.2⟩) (fun E9 H1 h => by rw [hc] at h; exact absurd h.1 (by simp))
theorem w_system (l : Launch) {D : va_G} {T : Nat → ClassId} {dE mi : Nat} (hst : l.stackTraces = false) {A : Nat → Prop} {g b0 bd : Nat} {Y : Nat → Nat → Int32} {M : mSt} {H : Heap} (hPK : PK D T dE b0 A g Y M H) (hI : Inv bd M) (x1 x2 : Int32) (hc : (oSystem M x1 x2).1 = 0) : vx_Met l yX6_system wsX6_system (rmL 8 4 88) (PcE D T dE mi A H [.ref b0, .int x1, .int x2]) (QI A (fun r H1 => r = (oSystem M x1 x2).2.1 ∧ PK D T dE b0 A g Y (oSystem M x1 x2).2.2 H1)) (XX A XN) 4 88 A := by
  obtain ⟨tg, hR, hL, h8g⟩ := hPK
  exact vq_i (u_system l hst hR hI x1 x2) (fun r H1 h => ⟨h.2.1, PK.of hR hL h8g h.2.2⟩) (fun E9 H1 h => by rw [hc] at h; exact absurd h.1 (by simp))
theorem w_answers (l : Launch) {D : va_G} {T : Nat → ClassId} {dE mi : Nat} (hst : l.stackTraces = false) {A : Nat → Prop} {g b0 bd : Nat} {Y : Nat → Nat → Int32} {M : mSt} {H : Heap} (hPK : PK D T dE b0 A g Y M H) (hI : Inv bd M) (x : Int32) (hc : (oAnswers M x).1 = 0) : vx_Met l yX6_answers wsX6_answers (rmL 7 1 6) (PcE D T dE mi A H [.ref b0, .int x]) (QI A (fun r H1 => r = (oAnswers M x).2.1 ∧ PK D T dE b0 A g Y (oAnswers M x).2.2 H1)) (XX A XN) 1 6 A := by
  obtain ⟨tg, hR, hL, h8g⟩ := hPK
  exact vq_i (u_answers l hst hR hI x) (fun r H1 h => ⟨h.2.1, PK.of hR hL h8g h.2.2⟩) (fun E9 H1 h => by rw [hc] at h; exact absurd h.1 (by simp))
theorem w_answersOneByOne (l : Launch) {D : va_G} {T : Nat → ClassId} {dE mi : Nat} (hst : l.stackTraces = false) {A : Nat → Prop} {g b0 bd : Nat} {Y : Nat → Nat → Int32} {M : mSt} {H : Heap} (hPK : PK D T dE b0 A g Y M H) (hI : Inv bd M) (x : Int32) (hc : (oOneByOne M x).1 = 0) : vx_Met l yX6_answersOneByOne wsX6_answersOneByOne (rmL 7 1 6) (PcE D T dE mi A H [.ref b0, .int x]) (QI A (fun r H1 => r = (oOneByOne M x).2.1 ∧ PK D T dE b0 A g Y (oOneByOne M x).2.2 H1)) (XX A XN) 1 6 A := by
  obtain ⟨tg, hR, hL, h8g⟩ := hPK
  exact vq_i (u_answersOneByOne l hst hR hI x) (fun r H1 h => ⟨h.2.1, PK.of hR hL h8g h.2.2⟩) (fun E9 H1 h => by rw [hc] at h; exact absurd h.1 (by simp))
theorem w_answeringRows (l : Launch) {D : va_G} {T : Nat → ClassId} {dE mi : Nat} (hst : l.stackTraces = false) {A : Nat → Prop} {g b0 bd : Nat} {Y : Nat → Nat → Int32} {M : mSt} {H : Heap} (hPK : PK D T dE b0 A g Y M H) (hI : Inv bd M) (x : Int32) (hc : (oAnsRows M x).1 = 0) : vx_Met l yX6_answeringRows wsX6_answeringRows (rmL 7 1 6) (PcE D T dE mi A H [.ref b0, .int x]) (QI A (fun r H1 => r = (oAnsRows M x).2.1 ∧ PK D T dE b0 A g Y (oAnsRows M x).2.2 H1)) (XX A XN) 1 6 A := by
  obtain ⟨tg, hR, hL, h8g⟩ := hPK
  exact vq_i (u_answeringRows l hst hR hI x) (fun r H1 h => ⟨h.2.1, PK.of hR hL h8g h.2.2⟩) (fun E9 H1 h => by rw [hc] at h; exact absurd h.1 (by simp))
theorem w_changed (l : Launch) {D : va_G} {T : Nat → ClassId} {dE mi : Nat} (hst : l.stackTraces = false) {A : Nat → Prop} {g b0 bd : Nat} {Y : Nat → Nat → Int32} {M : mSt} {H : Heap} (hPK : PK D T dE b0 A g Y M H) (hI : Inv bd M) (x x2 : Int32) (hc : (oChanged M x x2).1 = 0) : vx_Met l yX6_changed wsX6_changed (rmL 9 6 89) (PcE D T dE mi A H [.ref b0, .int x, .int x2]) (QI A (fun r H1 => r = (oChanged M x x2).2.1 ∧ PK D T dE b0 A g Y (oChanged M x x2).2.2 H1)) (XX A XN) 6 89 A := by
  obtain ⟨tg, hR, hL, h8g⟩ := hPK
  exact vq_i (u_changed l hst hR hI x x2) (fun r H1 h => ⟨h.2.1, PK.of hR hL h8g h.2.2⟩) (fun E9 H1 h => by rw [hc] at h; exact absurd h.1 (by simp))
theorem w_answer (l : Launch) {D : va_G} {T : Nat → ClassId} {dE mi : Nat} (hst : l.stackTraces = false) {A : Nat → Prop} {g b0 bd : Nat} {Y : Nat → Nat → Int32} {M : mSt} {H : Heap} (hPK : PK D T dE b0 A g Y M H) (hI : Inv bd M) (x x2 : Int32) (hc : (oAnswer M x x2).1 = 0) : vx_Met l yX6_answer wsX6_answer (rmL 9 7 95) (PcE D T dE mi A H [.ref b0, .int x, .int x2]) (QI A (fun r H1 => r = (oAnswer M x x2).2.1 ∧ PK D T dE b0 A g Y (oAnswer M x x2).2.2 H1)) (XX A XN) 7 95 A := by
  obtain ⟨tg, hR, hL, h8g⟩ := hPK
  exact vq_i (u_answer l hst hR hI x x2) (fun r H1 h => ⟨h.2.1, PK.of hR hL h8g h.2.2⟩) (fun E9 H1 h => by rw [hc] at h; exact absurd h.1 (by simp))
theorem w_stage (l : Launch) {D : va_G} {T : Nat → ClassId} {dE mi : Nat} (hst : l.stackTraces = false) {A : Nat → Prop} {g b0 bd : Nat} {Y : Nat → Nat → Int32} {M : mSt} {H : Heap} (hPK : PK D T dE b0 A g Y M H) (hI : Inv bd M) (x : Int32) (hc : (oStage M x).1 = 0) : vx_Met l yX6_stage wsX6_stage (rmL 6 1 6) (PcE D T dE mi A H [.ref b0, .int x]) (QI A (fun r H1 => r = (oStage M x).2.1 ∧ PK D T dE b0 A g Y (oStage M x).2.2 H1)) (XX A XN) 1 6 A := by
  obtain ⟨tg, hR, hL, h8g⟩ := hPK
  exact vq_i (u_stage l hst hR hI x) (fun r H1 h => ⟨h.2.1, PK.of hR hL h8g h.2.2⟩) (fun E9 H1 h => by rw [hc] at h; exact absurd h.1 (by simp))
theorem w_walk (l : Launch) {D : va_G} {T : Nat → ClassId} {dE mi : Nat} (hst : l.stackTraces = false) {A : Nat → Prop} {g b0 bd : Nat} {Y : Nat → Nat → Int32} {M : mSt} {H : Heap} (hPK : PK D T dE b0 A g Y M H) (hI : Inv bd M) (x : Int32) (hc : (oWalk M x).1 = 0) : vx_Met l yX6_walk wsX6_walk (rmL 9 9 101) (PcE D T dE mi A H [.ref b0, .int x]) (QI A (fun r H1 => r = (oWalk M x).2.1 ∧ PK D T dE b0 A g Y (oWalk M x).2.2 H1)) (XX A XN) 9 101 A := by
  obtain ⟨tg, hR, hL, h8g⟩ := hPK
  exact vq_i (u_walk l hst hR hI x) (fun r H1 h => ⟨h.2.1, PK.of hR hL h8g h.2.2⟩) (fun E9 H1 h => by rw [hc] at h; exact absurd h.1 (by simp))
theorem w_next (l : Launch) {D : va_G} {T : Nat → ClassId} {dE mi : Nat} (hst : l.stackTraces = false) {A : Nat → Prop} {g b0 bd : Nat} {Y : Nat → Nat → Int32} {M : mSt} {H : Heap} (hPK : PK D T dE b0 A g Y M H) (hI : Inv bd M) (hc : (oNext M).1 = 0) : vx_Met l yX6_next wsX6_next (rmL 7 1 6) (PcE D T dE mi A H [.ref b0]) (QI A (fun r H1 => r = (oNext M).2.1 ∧ PK D T dE b0 A g Y (oNext M).2.2 H1)) (XX A XN) 1 6 A := by
  obtain ⟨tg, hR, hL, h8g⟩ := hPK
  exact vq_i (u_next l hst hR hI) (fun r H1 h => ⟨h.2.1, PK.of hR hL h8g h.2.2⟩) (fun E9 H1 h => by rw [hc] at h; exact absurd h.1 (by simp))
theorem w_defer (l : Launch) {D : va_G} {T : Nat → ClassId} {dE mi : Nat} (hst : l.stackTraces = false) {A : Nat → Prop} {g b0 bd : Nat} {Y : Nat → Nat → Int32} {M : mSt} {H : Heap} (hPK : PK D T dE b0 A g Y M H) (hI : Inv bd M) (x1 x2 x3 x4 : Int32) (hc : (oDefer M x1 x2 x3 x4).1 = 0) : vx_Met l yX6_defer wsX6_defer (rmL 8 3 83) (PcE D T dE mi A H [.ref b0, .int x1, .int x2, .int x3, .int x4]) (QI A (fun r H1 => r = (oDefer M x1 x2 x3 x4).2.1 ∧ PK D T dE b0 A g Y (oDefer M x1 x2 x3 x4).2.2 H1)) (XX A XN) 3 83 A := by
  obtain ⟨tg, hR, hL, h8g⟩ := hPK
  exact vq_i (u_defer l hst hR hI x1 x2 x3 x4) (fun r H1 h => ⟨h.2.1, PK.of hR hL h8g h.2.2⟩) (fun E9 H1 h => by rw [hc] at h; exact absurd h.1 (by simp))
theorem w_finish (l : Launch) {D : va_G} {T : Nat → ClassId} {dE mi : Nat} (hst : l.stackTraces = false) {A : Nat → Prop} {g b0 bd : Nat} {Y : Nat → Nat → Int32} {M : mSt} {H : Heap} (hPK : PK D T dE b0 A g Y M H) (hI : Inv bd M) (h8 : bd + 800 ≤ 900000) (hc : (oFinish M).1 = 0) : vx_Met l yX6_finish wsX6_finish (rmL 13 281 5166) (PcE D T dE mi A H [.ref b0]) (QI A (fun r H1 => r = (oFinish M).2.1 ∧ PK D T dE b0 A g Y (oFinish M).2.2 H1)) (XX A XN) 281 5166 A := by
  obtain ⟨tg, hR, hL, h8g⟩ := hPK
  exact vq_i (u_finish l hst hR hI h8) (fun r H1 h => ⟨h.2.1, PK.of hR hL h8g h.2.2⟩) (fun E9 H1 h => by rw [hc] at h; exact absurd h.1 (by simp))
theorem w_run (l : Launch) {D : va_G} {T : Nat → ClassId} {dE mi : Nat} (hst : l.stackTraces = false) {A : Nat → Prop} {g b0 bd : Nat} {Y : Nat → Nat → Int32} {M : mSt} {H : Heap} (hPK : PK D T dE b0 A g Y M H) (hI : Inv bd M) (hc : (oRun M).1 = 0) : vx_Met l yX6_run wsX6_run (rmL 7 1 6) (PcE D T dE mi A H [.ref b0]) (QI A (fun r H1 => r = (oRun M).2.1 ∧ PK D T dE b0 A g Y (oRun M).2.2 H1)) (XX A XN) 1 6 A := by
  obtain ⟨tg, hR, hL, h8g⟩ := hPK
  exact vq_i (u_run l hst hR hI) (fun r H1 h => ⟨h.2.1, PK.of hR hL h8g h.2.2⟩) (fun E9 H1 h => by rw [hc] at h; exact absurd h.1 (by simp))
theorem r_L0 (l : Launch) {D : va_G} {T : Nat → ClassId} {dE mi : Nat} (hst : l.stackTraces = false) {A : Nat → Prop} {g b0 bd : Nat} {Y : Nat → Nat → Int32} {M : mSt} {H : Heap} (hPK : PK D T dE b0 A g Y M H) (hI : Inv bd M) (x x2 : Int32) {w : Nat} (hne : (oMake M).1 ≠ 0) (hw : rfw 0 (oMake M).1 = w) : vx_Met l yL_refused wsL_refused (rmL 10 6 123) (PcE D T dE mi A H [.ref b0, .int (nI 0), .int x, .int x2]) (QI A (fun r H1 => r = nI w ∧ PK D T dE b0 A g Y M H1)) (XX A XN) 6 123 A := by
  obtain ⟨tg, hR, hL, h8g⟩ := id hPK
  exact vq_i (c_L_refused0 l hst hR hI x x2 hne) (fun r H1 h => ⟨by rw [h.1, hw], hPK.kp h.2⟩) (fun _ _ h => h)
theorem r_L1 (l : Launch) {D : va_G} {T : Nat → ClassId} {dE mi : Nat} (hst : l.stackTraces = false) {A : Nat → Prop} {g b0 bd : Nat} {Y : Nat → Nat → Int32} {M : mSt} {H : Heap} (hPK : PK D T dE b0 A g Y M H) (hI : Inv bd M) (x x2 : Int32) {w : Nat} (hne : (oEnd M x).1 ≠ 0) (hw : rfw 1 (oEnd M x).1 = w) : vx_Met l yL_refused wsL_refused (rmL 10 7 95) (PcE D T dE mi A H [.ref b0, .int (nI 1), .int x, .int x2]) (QI A (fun r H1 => r = nI w ∧ PK D T dE b0 A g Y M H1)) (XX A XN) 7 95 A := by
  obtain ⟨tg, hR, hL, h8g⟩ := id hPK
  exact vq_i (c_L_refused1 l hst hR hI x x2 hne) (fun r H1 h => ⟨by rw [h.1, hw], hPK.kp h.2⟩) (fun _ _ h => h)
theorem r_L2 (l : Launch) {D : va_G} {T : Nat → ClassId} {dE mi : Nat} (hst : l.stackTraces = false) {A : Nat → Prop} {g b0 bd : Nat} {Y : Nat → Nat → Int32} {M : mSt} {H : Heap} (hPK : PK D T dE b0 A g Y M H) (hI : Inv bd M) (x x2 : Int32) {w : Nat} (hne : (oAdopt M x x2).1 ≠ 0) (hw : rfw 2 (oAdopt M x x2).1 = w) : vx_Met l yL_refused wsL_refused (rmL 8 4 24) (PcE D T dE mi A H [.ref b0, .int (nI 2), .int x, .int x2]) (QI A (fun r H1 => r = nI w ∧ PK D T dE b0 A g Y M H1)) (XX A XN) 4 24 A := by
  obtain ⟨tg, hR, hL, h8g⟩ := id hPK
  exact vq_i (c_L_refused2 l hst hR hI x x2 hne) (fun r H1 h => ⟨by rw [h.1, hw], hPK.kp h.2⟩) (fun _ _ h => h)
theorem r_L3 (l : Launch) {D : va_G} {T : Nat → ClassId} {dE mi : Nat} (hst : l.stackTraces = false) {A : Nat → Prop} {g b0 bd : Nat} {Y : Nat → Nat → Int32} {M : mSt} {H : Heap} (hPK : PK D T dE b0 A g Y M H) (hI : Inv bd M) (x x2 : Int32) {w : Nat} (hne : (oAdd M x x2 (nI 5)).1 ≠ 0) (hw : rfw 3 (oAdd M x x2 (nI 5)).1 = w) : vx_Met l yL_refused wsL_refused (rmL 11 7 129) (PcE D T dE mi A H [.ref b0, .int (nI 3), .int x, .int x2]) (QI A (fun r H1 => r = nI w ∧ PK D T dE b0 A g Y M H1)) (XX A XN) 7 129 A := by
  obtain ⟨tg, hR, hL, h8g⟩ := id hPK
  exact vq_i (c_L_refused3 l hst hR hI x x2 hne) (fun r H1 h => ⟨by rw [h.1, hw], hPK.kp h.2⟩) (fun _ _ h => h)
theorem r_L4 (l : Launch) {D : va_G} {T : Nat → ClassId} {dE mi : Nat} (hst : l.stackTraces = false) {A : Nat → Prop} {g b0 bd : Nat} {Y : Nat → Nat → Int32} {M : mSt} {H : Heap} (hPK : PK D T dE b0 A g Y M H) (hI : Inv bd M) (x x2 : Int32) {w : Nat} (hne : (oTake M x x2).1 ≠ 0) (hw : rfw 4 (oTake M x x2).1 = w) : vx_Met l yL_refused wsL_refused (rmL 11 8 135) (PcE D T dE mi A H [.ref b0, .int (nI 4), .int x, .int x2]) (QI A (fun r H1 => r = nI w ∧ PK D T dE b0 A g Y M H1)) (XX A XN) 8 135 A := by
  obtain ⟨tg, hR, hL, h8g⟩ := id hPK
  exact vq_i (c_L_refused4 l hst hR hI x x2 hne) (fun r H1 h => ⟨by rw [h.1, hw], hPK.kp h.2⟩) (fun _ _ h => h)
theorem r_L5 (l : Launch) {D : va_G} {T : Nat → ClassId} {dE mi : Nat} (hst : l.stackTraces = false) {A : Nat → Prop} {g b0 bd : Nat} {Y : Nat → Nat → Int32} {M : mSt} {H : Heap} (hPK : PK D T dE b0 A g Y M H) (hI : Inv bd M) (x x2 : Int32) {w : Nat} (hne : (oSet M x x2 (nI 5)).1 ≠ 0) (hw : rfw 5 (oSet M x x2 (nI 5)).1 = w) : vx_Met l yL_refused wsL_refused (rmL 9 3 18) (PcE D T dE mi A H [.ref b0, .int (nI 5), .int x, .int x2]) (QI A (fun r H1 => r = nI w ∧ PK D T dE b0 A g Y M H1)) (XX A XN) 3 18 A := by
  obtain ⟨tg, hR, hL, h8g⟩ := id hPK
  exact vq_i (c_L_refused5 l hst hR hI x x2 hne) (fun r H1 h => ⟨by rw [h.1, hw], hPK.kp h.2⟩) (fun _ _ h => h)
theorem r_L6 (l : Launch) {D : va_G} {T : Nat → ClassId} {dE mi : Nat} (hst : l.stackTraces = false) {A : Nat → Prop} {g b0 bd : Nat} {Y : Nat → Nat → Int32} {M : mSt} {H : Heap} (hPK : PK D T dE b0 A g Y M H) (hI : Inv bd M) (x x2 : Int32) {w : Nat} (hne : (oValue M x x2).1 ≠ 0) (hw : rfw 6 (oValue M x x2).1 = w) : vx_Met l yL_refused wsL_refused (rmL 9 3 18) (PcE D T dE mi A H [.ref b0, .int (nI 6), .int x, .int x2]) (QI A (fun r H1 => r = nI w ∧ PK D T dE b0 A g Y M H1)) (XX A XN) 3 18 A := by
  obtain ⟨tg, hR, hL, h8g⟩ := id hPK
  exact vq_i (c_L_refused6 l hst hR hI x x2 hne) (fun r H1 h => ⟨by rw [h.1, hw], hPK.kp h.2⟩) (fun _ _ h => h)
theorem r_L7 (l : Launch) {D : va_G} {T : Nat → ClassId} {dE mi : Nat} (hst : l.stackTraces = false) {A : Nat → Prop} {g b0 bd : Nat} {Y : Nat → Nat → Int32} {M : mSt} {H : Heap} (hPK : PK D T dE b0 A g Y M H) (hI : Inv bd M) (x x2 : Int32) {w : Nat} (hne : (oEntityAt M x x2).1 ≠ 0) (hw : rfw 7 (oEntityAt M x x2).1 = w) : vx_Met l yL_refused wsL_refused (rmL 8 2 12) (PcE D T dE mi A H [.ref b0, .int (nI 7), .int x, .int x2]) (QI A (fun r H1 => r = nI w ∧ PK D T dE b0 A g Y M H1)) (XX A XN) 2 12 A := by
  obtain ⟨tg, hR, hL, h8g⟩ := id hPK
  exact vq_i (c_L_refused7 l hst hR hI x x2 hne) (fun r H1 h => ⟨by rw [h.1, hw], hPK.kp h.2⟩) (fun _ _ h => h)
theorem r_L8 (l : Launch) {D : va_G} {T : Nat → ClassId} {dE mi : Nat} (hst : l.stackTraces = false) {A : Nat → Prop} {g b0 bd : Nat} {Y : Nat → Nat → Int32} {M : mSt} {H : Heap} (hPK : PK D T dE b0 A g Y M H) (hI : Inv bd M) (x x2 : Int32) {w : Nat} (hne : (oAnswer M x x2).1 ≠ 0) (hw : rfw 8 (oAnswer M x x2).1 = w) : vx_Met l yL_refused wsL_refused (rmL 10 7 95) (PcE D T dE mi A H [.ref b0, .int (nI 8), .int x, .int x2]) (QI A (fun r H1 => r = nI w ∧ PK D T dE b0 A g Y M H1)) (XX A XN) 7 95 A := by
  obtain ⟨tg, hR, hL, h8g⟩ := id hPK
  exact vq_i (c_L_refused8 l hst hR hI x x2 hne) (fun r H1 h => ⟨by rw [h.1, hw], hPK.kp h.2⟩) (fun _ _ h => h)
theorem r_L9 (l : Launch) {D : va_G} {T : Nat → ClassId} {dE mi : Nat} (hst : l.stackTraces = false) {A : Nat → Prop} {g b0 bd : Nat} {Y : Nat → Nat → Int32} {M : mSt} {H : Heap} (hPK : PK D T dE b0 A g Y M H) (hI : Inv bd M) (x x2 : Int32) {w : Nat} (hne : (oWalk M x).1 ≠ 0) (hw : rfw 9 (oWalk M x).1 = w) : vx_Met l yL_refused wsL_refused (rmL 10 9 101) (PcE D T dE mi A H [.ref b0, .int (nI 9), .int x, .int x2]) (QI A (fun r H1 => r = nI w ∧ PK D T dE b0 A g Y M H1)) (XX A XN) 9 101 A := by
  obtain ⟨tg, hR, hL, h8g⟩ := id hPK
  exact vq_i (c_L_refused9 l hst hR hI x x2 hne) (fun r H1 h => ⟨by rw [h.1, hw], hPK.kp h.2⟩) (fun _ _ h => h)
theorem r_L10 (l : Launch) {D : va_G} {T : Nat → ClassId} {dE mi : Nat} (hst : l.stackTraces = false) {A : Nat → Prop} {g b0 bd : Nat} {Y : Nat → Nat → Int32} {M : mSt} {H : Heap} (hPK : PK D T dE b0 A g Y M H) (hI : Inv bd M) (x x2 : Int32) {w : Nat} (hne : (oRun M).1 ≠ 0) (hw : rfw 10 (oRun M).1 = w) : vx_Met l yL_refused wsL_refused (rmL 8 1 6) (PcE D T dE mi A H [.ref b0, .int (nI 10), .int x, .int x2]) (QI A (fun r H1 => r = nI w ∧ PK D T dE b0 A g Y M H1)) (XX A XN) 1 6 A := by
  obtain ⟨tg, hR, hL, h8g⟩ := id hPK
  exact vq_i (c_L_refused10 l hst hR hI x x2 hne) (fun r H1 h => ⟨by rw [h.1, hw], hPK.kp h.2⟩) (fun _ _ h => h)
theorem r_L11 (l : Launch) {D : va_G} {T : Nat → ClassId} {dE mi : Nat} (hst : l.stackTraces = false) {A : Nat → Prop} {g b0 bd : Nat} {Y : Nat → Nat → Int32} {M : mSt} {H : Heap} (hPK : PK D T dE b0 A g Y M H) (hI : Inv bd M) (h8 : bd + 800 ≤ 900000) (x x2 : Int32) {w : Nat} (hne : (oFinish M).1 ≠ 0) (hw : rfw 11 (oFinish M).1 = w) : vx_Met l yL_refused wsL_refused (rmL 14 281 5166) (PcE D T dE mi A H [.ref b0, .int (nI 11), .int x, .int x2]) (QI A (fun r H1 => r = nI w ∧ PK D T dE b0 A g Y M H1)) (XX A XN) 281 5166 A := by
  obtain ⟨tg, hR, hL, h8g⟩ := id hPK
  exact vq_i (c_L_refused11 l hst hR hI h8 x x2 hne) (fun r H1 h => ⟨by rw [h.1, hw], hPK.kp h.2⟩) (fun _ _ h => h)
theorem r_L12 (l : Launch) {D : va_G} {T : Nat → ClassId} {dE mi : Nat} (hst : l.stackTraces = false) {A : Nat → Prop} {g b0 bd : Nat} {Y : Nat → Nat → Int32} {M : mSt} {H : Heap} (hPK : PK D T dE b0 A g Y M H) (hI : Inv bd M) (x x2 : Int32) {w : Nat} (hne : (oNext M).1 ≠ 0) (hw : rfw 12 (oNext M).1 = w) : vx_Met l yL_refused wsL_refused (rmL 8 1 6) (PcE D T dE mi A H [.ref b0, .int (nI 12), .int x, .int x2]) (QI A (fun r H1 => r = nI w ∧ PK D T dE b0 A g Y M H1)) (XX A XN) 1 6 A := by
  obtain ⟨tg, hR, hL, h8g⟩ := id hPK
  exact vq_i (c_L_refused12 l hst hR hI x x2 hne) (fun r H1 h => ⟨by rw [h.1, hw], hPK.kp h.2⟩) (fun _ _ h => h)
theorem r_L13 (l : Launch) {D : va_G} {T : Nat → ClassId} {dE mi : Nat} (hst : l.stackTraces = false) {A : Nat → Prop} {g b0 bd : Nat} {Y : Nat → Nat → Int32} {M : mSt} {H : Heap} (hPK : PK D T dE b0 A g Y M H) (hI : Inv bd M) (x x2 : Int32) {w : Nat} (hne : (oDefer M x (nI 0) (nI 0) (nI 0)).1 ≠ 0) (hw : rfw 13 (oDefer M x (nI 0) (nI 0) (nI 0)).1 = w) : vx_Met l yL_refused wsL_refused (rmL 9 3 83) (PcE D T dE mi A H [.ref b0, .int (nI 13), .int x, .int x2]) (QI A (fun r H1 => r = nI w ∧ PK D T dE b0 A g Y M H1)) (XX A XN) 3 83 A := by
  obtain ⟨tg, hR, hL, h8g⟩ := id hPK
  exact vq_i (c_L_refused13 l hst hR hI x x2 hne) (fun r H1 h => ⟨by rw [h.1, hw], hPK.kp h.2⟩) (fun _ _ h => h)

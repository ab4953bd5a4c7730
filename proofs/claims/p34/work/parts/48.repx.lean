/-! the store on the heap: each cell of its own has a tag, a cell of others has tag 0 -/
section VQ
variable {l : Launch} {y : MethodName} {ws : List Cond} {rm : Room} {Pc : Array Value → State → Prop} {mc ms : Nat} {fr : Addr → Prop} {A : Nat → Prop} {X X9 : String → Heap → Prop}
theorem vq_i {P P9 : Int32 → Heap → Prop} (hM : vx_Met l y ws rm Pc (QI A P) (XX A X) mc ms fr) (hp : ∀ r H1, P r H1 → P9 r H1) (hx : ∀ E H1, X E H1 → X9 E H1) : vx_Met l y ws rm Pc (QI A P9) (XX A X9) mc ms fr := by
  intro p e ha hf hc s m args below h1 h2 h3 h4
  obtain ⟨n, o, a1, a2, a3, a4⟩ := hM p e ha hf hc s m args below h1 h2 h3 h4
  refine ⟨n, o, a1, a2, a3, ?_⟩
  rcases a4 with ⟨⟨⟨r, u, e1, e2, e3⟩, e4⟩, e5⟩ | ⟨q, e1, E, ce, L, ⟨u, e2, ⟨e3, e4⟩, e5⟩, e6⟩
  · exact Or.inl ⟨⟨⟨r, u, e1, hp r u e2, e3⟩, e4⟩, e5⟩
  · exact Or.inr ⟨q, e1, E, ce, L, ⟨u, e2, ⟨e3, hx E u e4⟩, e5⟩, e6⟩
theorem vq_q {P P9 : Option Nat → Heap → Prop} (hM : vx_Met l y ws rm Pc (QQ A P) (XX A X) mc ms fr) (hp : ∀ r H1, P r H1 → P9 r H1) (hx : ∀ E H1, X E H1 → X9 E H1) : vx_Met l y ws rm Pc (QQ A P9) (XX A X9) mc ms fr := by
  intro p e ha hf hc s m args below h1 h2 h3 h4
  obtain ⟨n, o, a1, a2, a3, a4⟩ := hM p e ha hf hc s m args below h1 h2 h3 h4
  refine ⟨n, o, a1, a2, a3, ?_⟩
  rcases a4 with ⟨⟨⟨r, u, e1, e2, e3⟩, e4⟩, e5⟩ | ⟨q, e1, E, ce, L, ⟨u, e2, ⟨e3, e4⟩, e5⟩, e6⟩
  · exact Or.inl ⟨⟨⟨r, u, e1, hp r u e2, e3⟩, e4⟩, e5⟩
  · exact Or.inr ⟨q, e1, E, ce, L, ⟨u, e2, ⟨e3, hx E u e4⟩, e5⟩, e6⟩
theorem vq_v {P P9 : Heap → Prop} (hM : vx_Met l y ws rm Pc (QV A P) (XX A X) mc ms fr) (hp : ∀ H1, P H1 → P9 H1) (hx : ∀ E H1, X E H1 → X9 E H1) : vx_Met l y ws rm Pc (QV A P9) (XX A X9) mc ms fr := by
  intro p e ha hf hc s m args below h1 h2 h3 h4
  obtain ⟨n, o, a1, a2, a3, a4⟩ := hM p e ha hf hc s m args below h1 h2 h3 h4
  refine ⟨n, o, a1, a2, a3, ?_⟩
  rcases a4 with ⟨⟨⟨u, e1, e2, e3⟩, e4⟩, e5⟩ | ⟨q, e1, E, ce, L, ⟨u, e2, ⟨e3, e4⟩, e5⟩, e6⟩
  · exact Or.inl ⟨⟨⟨u, e1, hp u e2, e3⟩, e4⟩, e5⟩
  · exact Or.inr ⟨q, e1, E, ce, L, ⟨u, e2, ⟨e3, hx E u e4⟩, e5⟩, e6⟩
end VQ
def okK (cap : Nat) : Prop := cap = 0 ∨ cap = 10 ∨ cap = 15 ∨ cap = 22 ∨ cap = 33 ∨ cap = 49 ∨ cap = 73
theorem okK.up {cap : Nat} (h : okK cap) (h2 : cap < 64) : okK (capN cap) ∧ capN cap ≤ 73 ∧ (cap < 32 → capN cap ≤ 33) := by
  rcases h with h | h | h | h | h | h | h <;> subst h <;> first | exact absurd h2 (by decide) | (refine ⟨?_, by decide, by decide⟩; unfold okK; decide)
theorem okK.lt {cap : Nat} (h : okK cap) : cap < 1000 := by
  rcases h with h | h | h | h | h | h | h <;> omega
/-- what an addition costs -/
def dC (cap n : Nat) : Nat := if n < cap then 0 else 1
def dS (cap n : Nat) : Nat := if n < cap then 0 else capN cap
def nCap (cap n : Nat) : Nat := if n < cap then cap else capN cap
def nArr (H : Heap) (arr cap n : Nat) : Nat := if n < cap then arr else H.size
theorem dC_le {cap n : Nat} : dC cap n ≤ 1 := by unfold dC; split <;> omega
theorem dS_le {cap n : Nat} (h : okK cap) (hn : n ≤ cap) (h2 : n < 64) : dS cap n ≤ 73 := by
  unfold dS; split
  · omega
  · exact (h.up (by omega)).2.1
theorem dS_le32 {cap n : Nat} (h : okK cap) (hn : n ≤ cap) (h2 : n < 32) : dS cap n ≤ 33 := by
  unfold dS; split
  · omega
  · exact (h.up (by omega)).2.2 (by omega)
theorem nCap_ok {cap n : Nat} (h : okK cap) (hn : n ≤ cap) (h2 : n < 64) : okK (nCap cap n) ∧ 0 < nCap cap n := by
  unfold nCap; split
  · exact ⟨h, by omega⟩
  · exact ⟨(h.up (by omega)).1, by have := @capN_gt cap; omega⟩
set_option maxRecDepth 100000 in
theorem c_addL (l : Launch) {D : va_G} {T : Nat → ClassId} {dE mi : Nat} {A : Nat → Prop} {H : Heap} {a arr cap n ci : Nat} {f : Nat → Nat} {rr : vw_C} (hL : AL D T dE H a arr cap n f) (hcp : cap < 1000) (hAa : A a) (hAr : 0 < cap → A arr) (hAn : ∀ q : Nat, H.size ≤ q → A q) (hel : ∀ x, x < n → f x ≠ a ∧ ∃ vs, oc D H (f x) ci vs) (hci : vwCl[ci]? = some rr) (hca : (rr.1, "java/lang/Object") ∈ evCast) {v : Nat} {vs : List Value} (hv : oc D H v ci vs) (hva : v ≠ a) :
    vx_Met l yJx4a65c_add_9ea2d wsJx4a65c_add_9ea2d (rmL 7 (dC cap n) (dS cap n)) (PcE D T dE mi A H [.ref a, .ref v]) (QI A (fun r H1 => r = nI 1 ∧ AL D T dE H1 a (nArr H arr cap n) (nCap cap n) (n + 1) (nu f n v) ∧ H1.size = H.size + dC cap n ∧ ∀ q : Nat, q < H.size → q ≠ a → (0 < cap → q ≠ arr) → H1[q]? = H[q]?)) (XX A (XN)) (dC cap n) (dS cap n) A := by
  by_cases c : n < cap
  · have e1 : dC cap n = 0 := if_pos c
    have e2 : dS cap n = 0 := if_pos c
    have e3 : nArr H arr cap n = arr := if_pos c
    have e4 : nCap cap n = cap := if_pos c
    rw [e1, e2, e3, e4]
    exact vq_i (c_add_room l hL c hAa hAr hci hca hv hva) (fun r H1 h => ⟨h.1, h.2.1, h.2.2.1, fun q _ h2 h3 => h.2.2.2 q h2 (h3 (by omega))⟩) (fun _ _ h => h)
  · have hn := hL.2.1
    obtain rfl : cap = n := by omega
    have e1 : dC cap cap = 1 := if_neg c
    have e2 : dS cap cap = capN cap := if_neg c
    have e3 : nArr H arr cap cap = H.size := if_neg c
    have e4 : nCap cap cap = capN cap := if_neg c
    rw [e1, e2, e3, e4]
    exact vq_i (c_add_grow l hL hcp hAa hAn hel hci hca hv hva) (fun r H1 h => ⟨h.1, h.2.1, h.2.2.1, fun q h1 h2 _ => h.2.2.2 q h1 h2⟩) (fun _ _ h => h)
set_option maxRecDepth 100000 in
theorem c_insL (l : Launch) {D : va_G} {T : Nat → ClassId} {dE mi : Nat} {A : Nat → Prop} {H : Heap} {a arr cap n ci : Nat} {f : Nat → Nat} {rr : vw_C} (hL : AL D T dE H a arr cap n f) (hcp : cap < 1000) (hAa : A a) (hAr : 0 < cap → A arr) (hAn : ∀ q : Nat, H.size ≤ q → A q) (hel : ∀ x, x < n → f x ≠ a ∧ ∃ vs, oc D H (f x) ci vs) (hci : vwCl[ci]? = some rr) (hca : (rr.1, "java/lang/Object") ∈ evCast) {v : Nat} {vs : List Value} (hv : oc D H v ci vs) (hva : v ≠ a) {i : Nat} (hi : i ≤ n) (hvr : v ≠ arr) :
    vx_Met l yJx4a65c_add_7a177 wsJx4a65c_add_7a177 (rmL 6 (dC cap n) (dS cap n)) (PcE D T dE mi A H [.ref a, .int (nI i), .ref v]) (QV A (fun H1 => AL D T dE H1 a (nArr H arr cap n) (nCap cap n) (n + 1) (insF f i v) ∧ H1.size = H.size + dC cap n ∧ ∀ q : Nat, q < H.size → q ≠ a → (0 < cap → q ≠ arr) → H1[q]? = H[q]?)) (XX A (XN)) (dC cap n) (dS cap n) A := by
  by_cases c : n < cap
  · have e1 : dC cap n = 0 := if_pos c
    have e2 : dS cap n = 0 := if_pos c
    have e3 : nArr H arr cap n = arr := if_pos c
    have e4 : nCap cap n = cap := if_pos c
    rw [e1, e2, e3, e4]
    exact vq_v (c_ins_room l hL c hAa hAr hci hca hv hva hi hvr hel) (fun H1 h => ⟨h.1, h.2.1, fun q _ h2 h3 => h.2.2 q h2 (h3 (by omega))⟩) (fun _ _ h => h)
  · have hn := hL.2.1
    obtain rfl : cap = n := by omega
    have e1 : dC cap cap = 1 := if_neg c
    have e2 : dS cap cap = capN cap := if_neg c
    have e3 : nArr H arr cap cap = H.size := if_neg c
    have e4 : nCap cap cap = capN cap := if_neg c
    rw [e1, e2, e3, e4]
    exact vq_v (c_ins_grow l hL hcp hAa hAn hel hci hca hv hva hi) (fun H1 h => ⟨h.1, h.2.1, fun q h1 h2 _ => h.2.2 q h1 h2⟩) (fun _ _ h => h)
/-! tags -/
def FR (tg : Nat → Nat) (S : Nat → Prop) (H H1 : Heap) : Prop := H.size ≤ H1.size ∧ ∀ q : Nat, q < H.size → ¬ S (tg q) → H1[q]? = H[q]?
def TX (tg : Nat → Nat) (H : Heap) (tg1 : Nat → Nat) : Prop := ∀ q : Nat, q < H.size → tg1 q = tg q
theorem FR.rf {tg : Nat → Nat} {S : Nat → Prop} {H : Heap} : FR tg S H H := ⟨Nat.le_refl _, fun _ _ _ => rfl⟩
theorem TX.rf {tg : Nat → Nat} {H : Heap} : TX tg H tg := fun _ _ => rfl
theorem TX.tr {tg tg1 tg2 : Nat → Nat} {H H1 : Heap} (h : TX tg H tg1) (h2 : TX tg1 H1 tg2) (hz : H.size ≤ H1.size) : TX tg H tg2 := fun q hq => (h2 q (by omega)).trans (h q hq)
theorem FR.tr {tg tg1 : Nat → Nat} {S : Nat → Prop} {H H1 H2 : Heap} (h : FR tg S H H1) (ht : TX tg H tg1) (h2 : FR tg1 S H1 H2) : FR tg S H H2 := ⟨Nat.le_trans h.1 h2.1, fun q hq hs => (h2.2 q (Nat.lt_of_lt_of_le hq h.1) (by rw [ht q hq]; exact hs)).trans (h.2 q hq hs)⟩
theorem FR.wk {tg : Nat → Nat} {S S1 : Nat → Prop} {H H1 : Heap} (h : FR tg S H H1) (hs : ∀ t, S t → S1 t) : FR tg S1 H H1 := ⟨h.1, fun q hq hn => h.2 q hq (fun z => hn (hs _ z))⟩
theorem FR.kp {tg : Nat → Nat} {S : Nat → Prop} {H H1 : Heap} (h : KP H H1) : FR tg S H H1 := ⟨h.1, fun q hq _ => h.2 q hq⟩
def TG (A : Nat → Prop) (b : Nat) (H : Heap) (tg : Nat → Nat) : Prop := (∀ q, tg q ≠ 0 → A q ∧ q < H.size) ∧ (∀ q : Nat, H.size ≤ q → A q) ∧ tg b = 1 ∧ tg (b + 1) = 2 ∧ ∀ q, b + 5 ≤ q → q < b + 101 → tg q = 5
theorem TG.kept {A : Nat → Prop} {b : Nat} {H H1 : Heap} {tg : Nat → Nat} (h : TG A b H tg) (hz : H.size ≤ H1.size) : TG A b H1 tg := ⟨fun q hq => ⟨(h.1 q hq).1, Nat.lt_of_lt_of_le (h.1 q hq).2 hz⟩, fun q hq => h.2.1 q (by omega), h.2.2⟩
theorem TG.lt {A : Nat → Prop} {b : Nat} {H : Heap} {tg : Nat → Nat} (h : TG A b H tg) {q c : Nat} (hq : tg q = c) (hc : c ≠ 0) : q < H.size := (h.1 q (by rw [hq]; exact hc)).2
theorem TG.a {A : Nat → Prop} {b : Nat} {H : Heap} {tg : Nat → Nat} (h : TG A b H tg) {q c : Nat} (hq : tg q = c) (hc : c ≠ 0) : A q := (h.1 q (by rw [hq]; exact hc)).1
theorem TG.fr {A : Nat → Prop} {b : Nat} {H : Heap} {tg : Nat → Nat} (h : TG A b H tg) {q : Nat} (hq : H.size ≤ q) : tg q = 0 := by
  by_cases c : tg q = 0
  · exact c
  · exact absurd (h.1 q c).2 (by omega)
/-- a new cell gets a tag -/
theorem TG.nw {A : Nat → Prop} {b c a : Nat} {H H1 : Heap} {tg : Nat → Nat} (h : TG A b H tg) (ha : H.size ≤ a) (ha1 : a < H1.size) : TG A b H1 (nu tg a c) ∧ TX tg H (nu tg a c) := by
  have e : ∀ q, q ≠ a → nu tg a c q = tg q := fun q hq => nu_n hq
  have ne : ∀ q t, tg q = t → t ≠ 0 → q ≠ a := fun q t h1 h2 z => by
    have := h.lt h1 h2
    omega
  refine ⟨⟨fun q hq => ?_, fun q hq => h.2.1 q (by omega), ?_, ?_, fun q h1 h2 => ?_⟩, fun q hq => e q (by omega)⟩
  · by_cases c1 : q = a
    · subst c1; exact ⟨h.2.1 q ha, ha1⟩
    · rw [e q c1] at hq; exact ⟨(h.1 q hq).1, by have := (h.1 q hq).2; omega⟩
  · rw [e b (ne _ _ h.2.2.1 (by decide))]; exact h.2.2.1
  · rw [e (b + 1) (ne _ _ h.2.2.2.1 (by decide))]; exact h.2.2.2.1
  · rw [e q (ne _ _ (h.2.2.2.2 q h1 h2) (by decide))]; exact h.2.2.2.2 q h1 h2
def LSt (D : va_G) (T : Nat → ClassId) (dE : Nat) (tg : Nat → Nat) (c : Nat) (H : Heap) (a arr cap n : Nat) (f : Nat → Nat) : Prop := AL D T dE H a arr cap n f ∧ okK cap ∧ tg a = c ∧ tg arr = if cap = 0 then 0 else c + 1
section LSS
variable {D : va_G} {T : Nat → ClassId} {dE : Nat} {tg tg1 : Nat → Nat} {c : Nat} {H H1 : Heap} {a arr cap n : Nat} {f : Nat → Nat} {A : Nat → Prop} {b : Nat} {S : Nat → Prop}
theorem LSt.kept (h : LSt D T dE tg c H a arr cap n f) (ht : TX tg H tg1) (hF : FR tg S H H1) (h0 : ¬ S 0) (h1 : ¬ S c) (h2 : ¬ S (c + 1)) : LSt D T dE tg1 c H1 a arr cap n f := by
  obtain ⟨a1, a2, a3, a4⟩ := h
  obtain ⟨b1, b2⟩ := a1.lt
  refine ⟨a1.kept (hF.2 a b1 (by rw [a3]; exact h1)) (hF.2 arr b2 ?_), a2, (ht a b1).trans a3, (ht arr b2).trans a4⟩
  rw [a4]
  by_cases c1 : cap = 0
  · rw [if_pos c1]; exact h0
  · rw [if_neg c1]; exact h2
theorem LSt.ar (h : LSt D T dE tg c H a arr cap n f) (h0 : 0 < cap) : tg arr = c + 1 := by rw [h.2.2.2, if_neg (by omega)]
theorem LSt.aa (h : LSt D T dE tg c H a arr cap n f) (hT : TG A b H tg) (hc : c ≠ 0) : A a := hT.a h.2.2.1 hc
theorem LSt.aA (h : LSt D T dE tg c H a arr cap n f) (hT : TG A b H tg) : 0 < cap → A arr := fun h0 => hT.a (h.ar h0) (Nat.succ_ne_zero c)
theorem LSt.nz (h : LSt D T dE tg c H a arr cap n f) : tg arr = 0 ∨ tg arr = c + 1 := by
  rw [h.2.2.2]
  by_cases c1 : cap = 0
  · rw [if_pos c1]; exact Or.inl rfl
  · rw [if_neg c1]; exact Or.inr rfl
theorem LSt.nw {ho : AL D T dE H a dE 0 0 f} (h1 : tg a = c) (h2 : tg dE = 0) : LSt D T dE tg c H a dE 0 0 f := ⟨ho, Or.inl rfl, h1, by rw [if_pos rfl]; exact h2⟩
theorem LSt.cong {f1 : Nat → Nat} (h : LSt D T dE tg c H a arr cap n f) (e : ∀ i, i < n → f1 i = f i) : LSt D T dE tg c H a arr cap n f1 := ⟨h.1.cong e, h.2⟩
/-- an addition, by tags -/
theorem LSt.ad {v : Nat} (h : LSt D T dE tg c H a arr cap n f) (hT : TG A b H tg) (hc : c ≠ 0) (hn : n < 64) (h1 : AL D T dE H1 a (nArr H arr cap n) (nCap cap n) (n + 1) (nu f n v)) (hz : H1.size = H.size + dC cap n) (hq : ∀ q : Nat, q < H.size → q ≠ a → (0 < cap → q ≠ arr) → H1[q]? = H[q]?) :
    ∃ (tg1 : Nat → Nat) (arr1 cap1 : Nat), TG A b H1 tg1 ∧ TX tg H tg1 ∧ LSt D T dE tg1 c H1 a arr1 cap1 (n + 1) (nu f n v) ∧ FR tg (fun t => t = c ∨ t = c + 1) H H1 := by
  have hcap := h.1.2.1
  have hF : FR tg (fun t => t = c ∨ t = c + 1) H H1 := ⟨by omega, fun q h2 h3 => hq q h2 (fun z => h3 (by rw [z]; exact Or.inl h.2.2.1)) (fun h0 z => h3 (by rw [z]; exact Or.inr (h.ar h0)))⟩
  by_cases c1 : n < cap
  · have e3 : nArr H arr cap n = arr := if_pos c1
    have e4 : nCap cap n = cap := if_pos c1
    rw [e3, e4] at h1
    exact ⟨tg, arr, cap, hT.kept hF.1, TX.rf, ⟨h1, h.2.1, h.2.2⟩, hF⟩
  · have e3 : nArr H arr cap n = H.size := if_neg c1
    have e1 : dC cap n = 1 := if_neg c1
    obtain ⟨t1, t2⟩ := hT.nw (c := c + 1) (H1 := H1) (Nat.le_refl H.size) (by omega)
    obtain ⟨k1, k2⟩ := nCap_ok h.2.1 hcap hn
    rw [e3] at h1
    exact ⟨_, _, _, t1, t2, ⟨h1, k1, (t2 a (hT.lt h.2.2.1 hc)).trans h.2.2.1, by rw [nu_s, if_neg (by omega)]⟩, hF⟩
/-- a change that keeps object and array -/
theorem LSt.st {n1 : Nat} {f1 : Nat → Nat} (h : LSt D T dE tg c H a arr cap n f) (h1 : AL D T dE H1 a arr cap n1 f1) (hz : H1.size = H.size) (hq : ∀ q : Nat, q ≠ a → q ≠ arr → H1[q]? = H[q]?) (h0 : 0 < cap) : LSt D T dE tg c H1 a arr cap n1 f1 ∧ FR tg (fun t => t = c ∨ t = c + 1) H H1 :=
  ⟨⟨h1, h.2.1, h.2.2⟩, by omega, fun q h2 h3 => hq q (fun z => h3 (by rw [z]; exact Or.inl h.2.2.1)) (fun z => h3 (by rw [z]; exact Or.inr (h.ar h0)))⟩
end LSS

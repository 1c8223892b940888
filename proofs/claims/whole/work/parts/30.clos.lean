section CLOS
/-! SAME: what must be equal by equations, as f and g of equal ones are, among the terms U -/
def CCong (U : Tm → Prop) (Rl : Tm → Tm → Prop) : Prop := (∀ t, Rl t t) ∧ (∀ t u, Rl t u → Rl u t) ∧ (∀ t u v, Rl t u → Rl u v → Rl t v) ∧ (∀ a b, U (tf a) → U (tf b) → Rl a b → Rl (tf a) (tf b)) ∧ ∀ a b c e, U (tg a b) → U (tg c e) → Rl a c → Rl b e → Rl (tg a b) (tg c e)
def Cl (U : Tm → Prop) (E : Tm → Tm → Prop) (t u : Tm) : Prop := ∀ Rl, CCong U Rl → (∀ a b, E a b → Rl a b) → Rl t u
set_option maxRecDepth 100000 in
set_option maxHeartbeats 1000000 in
theorem Cl.cc (U : Tm → Prop) (E : Tm → Tm → Prop) : CCong U (Cl U E) := by
  refine ⟨fun t Rl h _ => h.1 t, fun t u q Rl h e => h.2.1 _ _ (q Rl h e), fun t u v q q' Rl h e => h.2.2.1 _ _ _ (q Rl h e) (q' Rl h e), fun a b ua ub q Rl h e => h.2.2.2.1 a b ua ub (q Rl h e), fun a b c g u1 u2 q q' Rl h e => h.2.2.2.2 a b c g u1 u2 (q Rl h e) (q' Rl h e)⟩
set_option maxRecDepth 100000 in
set_option maxHeartbeats 1000000 in
theorem Cl.of {U : Tm → Prop} {E : Tm → Tm → Prop} {t u : Tm} (h : E t u) : Cl U E t u := fun _ _ e => e _ _ h
set_option maxRecDepth 100000 in
set_option maxHeartbeats 1000000 in
theorem Cl.mono {U : Tm → Prop} {E E' : Tm → Tm → Prop} (hE : ∀ a b, E a b → E' a b) {t u : Tm} (h : Cl U E t u) : Cl U E' t u := fun Rl c e => h Rl c (fun a b q => e a b (hE a b q))
set_option maxRecDepth 100000 in
set_option maxHeartbeats 1000000 in
theorem Cl.congr {U U' : Tm → Prop} {E E' : Tm → Tm → Prop} (hU : ∀ t, U t ↔ U' t) (hE : ∀ a b, E a b ↔ E' a b) {t u : Tm} : Cl U E t u ↔ Cl U' E' t u := by
  have e1 : U = U' := funext fun t => propext (hU t)
  have e2 : E = E' := funext fun a => funext fun b => propext (hE a b)
  rw [e1, e2]
/-- a table of terms, as far as sameness goes: each term once, its parts in it -/
def PTab (tb : Int → Tm) (z : Int) : Prop := (∀ i j, 0 ≤ i → i < z → 0 ≤ j → j < z → tb i = tb j → i = j) ∧ (∀ i a, 0 ≤ i → i < z → tb i = tf a → ∃ l, 0 ≤ l ∧ l < z ∧ tb l = a) ∧ ∀ i a b, 0 ≤ i → i < z → tb i = tg a b → (∃ l, 0 ≤ l ∧ l < z ∧ tb l = a) ∧ ∃ r, 0 ≤ r ∧ r < z ∧ tb r = b
def UT (tb : Int → Tm) (z : Int) (t : Tm) : Prop := ∃ i, 0 ≤ i ∧ i < z ∧ tb i = t
def RtOK (rt : Int → Int) (z : Int) : Prop := ∀ i, 0 ≤ i → i < z → 0 ≤ rt i ∧ rt i < z ∧ rt (rt i) = rt i
def RtS (rt : Int → Int) (z : Int) (tb : Int → Tm) (C : Tm → Tm → Prop) : Prop := ∀ i j, 0 ≤ i → i < z → 0 ≤ j → j < z → rt i = rt j → C (tb i) (tb j)
def RtC (rt : Int → Int) (z : Int) (tb : Int → Tm) : Prop := (∀ i j l m, 0 ≤ i → i < z → 0 ≤ j → j < z → 0 ≤ l → l < z → 0 ≤ m → m < z → tb i = tf (tb l) → tb j = tf (tb m) → rt l = rt m → rt i = rt j) ∧ ∀ i j l m l' m', 0 ≤ i → i < z → 0 ≤ j → j < z → 0 ≤ l → l < z → 0 ≤ m → m < z → 0 ≤ l' → l' < z → 0 ≤ m' → m' < z → tb i = tg (tb l) (tb l') → tb j = tg (tb m) (tb m') → rt l = rt m → rt l' = rt m' → rt i = rt j
/-- finer to coarser -/
def RtR (rt rt' : Int → Int) (z : Int) : Prop := ∀ i j, 0 ≤ i → i < z → 0 ≤ j → j < z → rt i = rt j → rt' i = rt' j
set_option maxRecDepth 100000 in
set_option maxHeartbeats 1000000 in
theorem RtR.rf (rt : Int → Int) (z : Int) : RtR rt rt z := fun _ _ _ _ _ _ h => h
set_option maxRecDepth 100000 in
set_option maxHeartbeats 1000000 in
theorem RtR.tr {a b c : Int → Int} {z : Int} (h : RtR a b z) (h' : RtR b c z) : RtR a c z := fun i j i0 i1 j0 j1 e => h' i j i0 i1 j0 j1 (h i j i0 i1 j0 j1 e)
set_option maxRecDepth 100000 in
set_option maxHeartbeats 1000000 in
theorem rt_complete {tb : Int → Tm} {z : Int} {rt : Int → Int} {E : Tm → Tm → Prop} (T : PTab tb z) (hC : RtC rt z tb) (hE : ∀ t u, E t u → ∃ i j, 0 ≤ i ∧ i < z ∧ 0 ≤ j ∧ j < z ∧ tb i = t ∧ tb j = u ∧ rt i = rt j) {i j : Int} (i0 : 0 ≤ i) (i1 : i < z) (j0 : 0 ≤ j) (j1 : j < z) (h : Cl (UT tb z) E (tb i) (tb j)) : rt i = rt j := by
  obtain ⟨T1, T2, T3⟩ := T
  have key := h (fun t u => t = u ∨ ∃ i j, 0 ≤ i ∧ i < z ∧ 0 ≤ j ∧ j < z ∧ tb i = t ∧ tb j = u ∧ rt i = rt j) ?_ (fun a b e => Or.inr (hE a b e))
  · rcases key with e | ⟨a, b, a0, a1, b0, b1, ea, eb, er⟩
    · rw [T1 i j i0 i1 j0 j1 e]
    · rw [T1 i a i0 i1 a0 a1 ea.symm, T1 j b j0 j1 b0 b1 eb.symm]
      exact er
  · have at2 : ∀ {t u : Tm}, (t = u ∨ ∃ i j, 0 ≤ i ∧ i < z ∧ 0 ≤ j ∧ j < z ∧ tb i = t ∧ tb j = u ∧ rt i = rt j) → ∀ l m, 0 ≤ l → l < z → 0 ≤ m → m < z → tb l = t → tb m = u → rt l = rt m := by
      rintro t u (e | ⟨a, b, a0, a1, b0, b1, ea, eb, er⟩) l m l0 l1 m0 m1 el em
      · rw [T1 l m l0 l1 m0 m1 (by rw [el, em, e])]
      · rw [T1 l a l0 l1 a0 a1 (by rw [el, ea]), T1 m b m0 m1 b0 b1 (by rw [em, eb])]
        exact er
    refine ⟨fun t => Or.inl rfl, ?_, ?_, ?_, ?_⟩
    · rintro t u (e | ⟨a, b, a0, a1, b0, b1, ea, eb, er⟩)
      · exact Or.inl e.symm
      · exact Or.inr ⟨b, a, b0, b1, a0, a1, eb, ea, er.symm⟩
    · rintro t u v q (e | ⟨a, b, a0, a1, b0, b1, ea, eb, er⟩)
      · rw [← e]; exact q
      · rcases q with e' | ⟨a', b', a0', a1', b0', b1', ea', eb', er'⟩
        · exact Or.inr ⟨a, b, a0, a1, b0, b1, by rw [ea, e'], eb, er⟩
        · have : b' = a := T1 b' a b0' b1' a0 a1 (by rw [eb', ea])
          subst this
          exact Or.inr ⟨a', b, a0', a1', b0, b1, ea', eb, er'.trans er⟩
    · rintro a b ⟨i, i0, i1, ei⟩ ⟨j, j0, j1, ej⟩ q
      obtain ⟨l, l0, l1, el⟩ := T2 i a i0 i1 ei
      obtain ⟨m, m0, m1, em⟩ := T2 j b j0 j1 ej
      exact Or.inr ⟨i, j, i0, i1, j0, j1, ei, ej, hC.1 i j l m i0 i1 j0 j1 l0 l1 m0 m1 (by rw [ei, el]) (by rw [ej, em]) (at2 q l m l0 l1 m0 m1 el em)⟩
    · rintro a b c e ⟨i, i0, i1, ei⟩ ⟨j, j0, j1, ej⟩ q q'
      obtain ⟨⟨l, l0, l1, el⟩, l', l0', l1', el'⟩ := T3 i a b i0 i1 ei
      obtain ⟨⟨m, m0, m1, em⟩, m', m0', m1', em'⟩ := T3 j c e j0 j1 ej
      exact Or.inr ⟨i, j, i0, i1, j0, j1, ei, ej, hC.2 i j l m l' m' i0 i1 j0 j1 l0 l1 m0 m1 l0' l1' m0' m1' (by rw [ei, el, el']) (by rw [ej, em, em']) (at2 q l m l0 l1 m0 m1 el em) (at2 q' l' m' l0' l1' m0' m1' el' em')⟩
/-! joining two -/
def mrg (rt : Int → Int) (a b : Int) : Int → Int := fun i => if rt i = rt b then rt a else rt i
set_option maxRecDepth 100000 in
set_option maxHeartbeats 1000000 in
theorem mrg_ok {rt : Int → Int} {z a b : Int} (h : RtOK rt z) (a0 : 0 ≤ a) (a1 : a < z) (b0 : 0 ≤ b) (b1 : b < z) : RtOK (mrg rt a b) z := by
  intro i i0 i1
  obtain ⟨p1, p2, p3⟩ := h i i0 i1
  obtain ⟨q1, q2, q3⟩ := h a a0 a1
  unfold mrg
  by_cases e : rt i = rt b
  · rw [if_pos e]
    refine ⟨q1, q2, ?_⟩
    rw [q3]
    split <;> rfl
  · rw [if_neg e]
    refine ⟨p1, p2, ?_⟩
    rw [p3, if_neg e]
set_option maxRecDepth 100000 in
set_option maxHeartbeats 1000000 in
theorem mrg_r (rt : Int → Int) (z a b : Int) : RtR rt (mrg rt a b) z := by
  intro i j _ _ _ _ e
  unfold mrg
  rw [e]
set_option maxRecDepth 100000 in
set_option maxHeartbeats 1000000 in
theorem mrg_eq (rt : Int → Int) (a b : Int) : mrg rt a b a = mrg rt a b b := by
  unfold mrg
  rw [if_pos rfl]
  split <;> rfl
set_option maxRecDepth 100000 in
set_option maxHeartbeats 1000000 in
theorem mrg_s {rt : Int → Int} {z a b : Int} {tb : Int → Tm} {C : Tm → Tm → Prop} {U : Tm → Prop} (hC : CCong U C) (h : RtS rt z tb C) (a0 : 0 ≤ a) (a1 : a < z) (b0 : 0 ≤ b) (b1 : b < z) (hab : C (tb a) (tb b)) : RtS (mrg rt a b) z tb C := by
  intro i j i0 i1 j0 j1 e
  unfold mrg at e
  by_cases ei : rt i = rt b <;> by_cases ej : rt j = rt b
  · exact h i j i0 i1 j0 j1 (ei.trans ej.symm)
  · rw [if_pos ei, if_neg ej] at e
    exact hC.2.2.1 _ _ _ (h i b i0 i1 b0 b1 ei) (hC.2.2.1 _ _ _ (hC.2.1 _ _ hab) (h a j a0 a1 j0 j1 e))
  · rw [if_neg ei, if_pos ej] at e
    exact hC.2.2.1 _ _ _ (h i a i0 i1 a0 a1 e) (hC.2.2.1 _ _ _ hab (h b j b0 b1 j0 j1 ej.symm))
  · rw [if_neg ei, if_neg ej] at e
    exact h i j i0 i1 j0 j1 e
/-! how many are by themselves -/
def cnt (rt : Int → Int) : Nat → Nat
  | 0 => 0
  | k + 1 => cnt rt k + (if rt (k : Int) = (k : Int) then 1 else 0)
set_option maxRecDepth 100000 in
set_option maxHeartbeats 1000000 in
theorem cnt_le (rt : Int → Int) : ∀ n : Nat, cnt rt n ≤ n
  | 0 => Nat.le_refl _
  | k + 1 => by
    have := cnt_le rt k
    unfold cnt
    split <;> omega
set_option maxRecDepth 100000 in
set_option maxHeartbeats 1000000 in
theorem cnt_mono {rt rt' : Int → Int} : ∀ n : Nat, (∀ i : Int, 0 ≤ i → i < n → rt' i = i → rt i = i) → cnt rt' n ≤ cnt rt n
  | 0, _ => Nat.le_refl _
  | k + 1, h => by
    have := cnt_mono k (fun i i0 i1 => h i i0 (by omega))
    have hk := h (k : Int) (by omega) (by omega)
    unfold cnt
    by_cases q : rt' (k : Int) = (k : Int)
    · rw [if_pos q, if_pos (hk q)]; omega
    · rw [if_neg q]; split <;> omega
set_option maxRecDepth 100000 in
set_option maxHeartbeats 1000000 in
theorem cnt_lt {rt rt' : Int → Int} : ∀ (n : Nat) (g : Int), (∀ i : Int, 0 ≤ i → i < n → rt' i = i → rt i = i) → 0 ≤ g → g < n → rt g = g → rt' g ≠ g → cnt rt' n < cnt rt n
  | 0, g, _, g0, g1, _, _ => by omega
  | k + 1, g, h, g0, g1, e, e' => by
    unfold cnt
    by_cases q : g = (k : Int)
    · subst q
      have := cnt_mono k (fun i i0 i1 => h i i0 (by omega))
      rw [if_pos e, if_neg e']; omega
    · have := cnt_lt k g (fun i i0 i1 => h i i0 (by omega)) g0 (by omega) e e'
      have hk := h (k : Int) (by omega) (by omega)
      by_cases q' : rt' (k : Int) = (k : Int)
      · rw [if_pos q', if_pos (hk q')]; omega
      · rw [if_neg q']; split <;> omega
set_option maxRecDepth 100000 in
set_option maxHeartbeats 1000000 in
theorem cnt_congr {rt rt' : Int → Int} (n : Nat) (h : ∀ i : Int, 0 ≤ i → i < n → rt' i = rt i) : cnt rt' n = cnt rt n :=
  Nat.le_antisymm (cnt_mono n (fun i i0 i1 e => by rw [← h i i0 i1]; exact e)) (cnt_mono n (fun i i0 i1 e => by rw [h i i0 i1]; exact e))
set_option maxRecDepth 100000 in
set_option maxHeartbeats 1000000 in
theorem mrg_cnt {rt : Int → Int} {n : Nat} {a b : Int} (h : RtOK rt n) (a0 : 0 ≤ a) (a1 : a < n) (b0 : 0 ≤ b) (b1 : b < n) (hne : rt a ≠ rt b) : cnt (mrg rt a b) n < cnt rt n := by
  obtain ⟨q1, q2, q3⟩ := h b b0 b1
  obtain ⟨p1, p2, p3⟩ := h a a0 a1
  refine cnt_lt n (rt b) (fun i i0 i1 e => ?_) q1 q2 q3 ?_
  · unfold mrg at e
    by_cases q : rt i = rt b
    · rw [if_pos q] at e
      rw [← e, p3]
    · rw [if_neg q] at e; exact e
  · unfold mrg
    rw [if_pos q3]
    exact hne
end CLOS

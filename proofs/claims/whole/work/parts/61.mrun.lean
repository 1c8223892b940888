section MRUN
variable {sc : PSc} {Γ : List PTy} {R : PRm}
set_option maxRecDepth 100000 in
set_option maxHeartbeats 1000000 in
theorem PC.mono {μ : PMI} {d kc ks : Nat} {av : List PV} {I : PIm} {post post' : PPost} (h : PC sc μ d kc ks av Γ I R post) (hp : ∀ v Γ' I' R', post v Γ' I' R' → post' v Γ' I' R') : PC sc μ d kc ks av Γ I R post' := by
  intro w l p e he h1 h2 s m args below hf ha hP hK
  obtain ⟨n, o, a, b, c, ⟨⟨v, Γ', I', R', q1, q2, q3⟩, q4⟩, q5⟩ := h w l p e he h1 h2 s m args below hf ha hP hK
  exact ⟨n, o, a, b, c, ⟨⟨v, Γ', I', R', q1, hp _ _ _ _ q2, q3⟩, q4⟩, q5⟩
/-- the reference's row of terms -/
def MTabE (I : PIm) (tb : Int → Tm) (i : Int) : Prop := (i < 4 → mrow I i i (-9) (-9) ∧ tb i = tc i) ∧ (4 ≤ i → (mrow I i 4 (I 123 i) (-9) ∧ (0 ≤ I 123 i ∧ I 123 i < i) ∧ tb i = tf (tb (I 123 i))) ∨ (mrow I i 5 (I 123 i) (I 124 i) ∧ (0 ≤ I 123 i ∧ I 123 i < i) ∧ (0 ≤ I 124 i ∧ I 124 i < i) ∧ tb i = tg (tb (I 123 i)) (tb (I 124 i))))
def MTab (I : PIm) (z : Int) (tb : Int → Tm) : Prop := 4 ≤ z ∧ (∀ i, 0 ≤ i → i < z → MTabE I tb i) ∧ ∀ i j, 0 ≤ i → i < z → 0 ≤ j → j < z → tb i = tb j → i = j
set_option maxRecDepth 100000 in
set_option maxHeartbeats 1000000 in
theorem MTab.cg {I I' : PIm} {z : Int} {tb : Int → Tm} (T : MTab I z tb) (h : ∀ q, 122 ≤ q → q ≤ 124 → ∀ k, 0 ≤ k → k < z → I' q k = I q k) : MTab I' z tb := by
  refine ⟨T.1, fun i i0 i1 => ?_, T.2.2⟩
  have := T.2.1 i i0 i1
  unfold MTabE mrow at this ⊢
  rw [h 122 (by omega) (by omega) i i0 i1, h 123 (by omega) (by omega) i i0 i1, h 124 (by omega) (by omega) i i0 i1]
  exact this
set_option maxRecDepth 100000 in
set_option maxHeartbeats 1000000 in
theorem MTab.tb_cg {I : PIm} {z : Int} {tb tb' : Int → Tm} (T : MTab I z tb) (h : ∀ j, 0 ≤ j → j < z → tb' j = tb j) : MTab I z tb' := by
  refine ⟨T.1, fun i i0 i1 => ?_, fun i j i0 i1 j0 j1 e => T.2.2 i j i0 i1 j0 j1 (by rw [← h i i0 i1, ← h j j0 j1]; exact e)⟩
  obtain ⟨a, b⟩ := T.2.1 i i0 i1
  refine ⟨fun q => ⟨(a q).1, by rw [h i i0 i1]; exact (a q).2⟩, fun q => ?_⟩
  rcases b q with ⟨b1, b2, b3⟩ | ⟨b1, b2, b3, b4⟩
  · exact Or.inl ⟨b1, b2, by rw [h i i0 i1, h _ b2.1 (by omega)]; exact b3⟩
  · exact Or.inr ⟨b1, b2, b3, by rw [h i i0 i1, h _ b2.1 (by omega), h _ b3.1 (by omega)]; exact b4⟩
set_option maxRecDepth 100000 in
set_option maxHeartbeats 1000000 in
theorem MTab.sub {I : PIm} {z z' : Int} {tb : Int → Tm} (T : MTab I z tb) (h4 : 4 ≤ z') (hz : z' ≤ z) : MTab I z' tb := ⟨h4, fun i a b => T.2.1 i a (by omega), fun i j a b a' b' => T.2.2 i j a (by omega) a' (by omega)⟩
set_option maxRecDepth 100000 in
set_option maxHeartbeats 1000000 in
theorem MTab.rg {I : PIm} {z : Int} {tb : Int → Tm} (T : MTab I z tb) (hz : z ≤ 200) : ∀ j : Int, 0 ≤ j → j < z → Rg (I 122 j) ∧ Rg (I 123 j) ∧ Rg (I 124 j) := by
  intro j j0 j1
  obtain ⟨a, b⟩ := T.2.1 j j0 j1
  by_cases q : j < 4
  · obtain ⟨⟨q1, q2, q3⟩, -⟩ := a q; omega
  · rcases b (by omega) with ⟨⟨q1, q2, q3⟩, q4, -⟩ | ⟨⟨q1, q2, q3⟩, q4, q5, -⟩ <;> omega
set_option maxRecDepth 100000 in
set_option maxHeartbeats 1000000 in
theorem MTab.const {I : PIm} {z : Int} {tb : Int → Tm} (T : MTab I z tb) {r : Int} (r0 : 0 ≤ r) (r1 : r < 4) : tb r = tc r := ((T.2.1 r r0 (by have := T.1; omega)).1 r1).2
set_option maxRecDepth 100000 in
set_option maxHeartbeats 1000000 in
theorem MTab.ptab {I : PIm} {z : Int} {tb : Int → Tm} (T : MTab I z tb) : PTab tb z := by
  refine ⟨T.2.2, fun i a i0 i1 e => ?_, fun i a b i0 i1 e => ?_⟩
  · obtain ⟨u, v⟩ := T.2.1 i i0 i1
    by_cases q : i < 4
    · exact absurd ((u q).2.symm.trans e) tc_tf
    · rcases v (by omega) with ⟨-, b2, b3⟩ | ⟨-, b2, b3, b4⟩
      · exact ⟨_, b2.1, by omega, tf_inj (b3.symm.trans e)⟩
      · exact absurd (e.symm.trans b4) tf_tg
  · obtain ⟨u, v⟩ := T.2.1 i i0 i1
    by_cases q : i < 4
    · exact absurd ((u q).2.symm.trans e) tc_tg
    · rcases v (by omega) with ⟨-, b2, b3⟩ | ⟨-, b2, b3, b4⟩
      · exact absurd (b3.symm.trans e) tf_tg
      · have := tg_inj (b4.symm.trans e)
        exact ⟨⟨_, b2.1, by omega, this.1⟩, _, b3.1, by omega, this.2⟩
/-- behind the making of a term -/
def MMade (I I' : PIm) (tb tb' : Int → Tm) (t : Tm) (i : Int) : Prop := (0 ≤ i ∧ i < I' 112 13) ∧ tb' i = t ∧ MTab I' (I' 112 13) tb' ∧ (I 112 13 ≤ I' 112 13 ∧ I' 112 13 ≤ I 112 13 + 1) ∧ (∀ j, j < I 112 13 → tb' j = tb j) ∧ (∀ j, j < I' 112 13 → j < I 112 13 ∨ tb' j = t) ∧ ∀ q k, ¬ ((122 ≤ q ∧ q ≤ 124) ∨ (q = 112 ∧ k = 13)) → I' q k = I q k
set_option maxRecDepth 100000 in
set_option maxHeartbeats 1000000 in
theorem mt_find {I : PIm} {z : Int} {tb : Int → Tm} (T : MTab I z tb) {i a : Int} (i0 : 0 ≤ i) (i1 : i < z) (a0 : 0 ≤ a) (h : mrow I i 4 a (-9)) : tb i = tf (tb a) := by
  obtain ⟨u, v⟩ := T.2.1 i i0 i1
  obtain ⟨h1, h2, h3⟩ := h
  by_cases q : i < 4
  · obtain ⟨⟨q1, q2, q3⟩, -⟩ := u q; omega
  · rcases v (by omega) with ⟨b1, b2, b3⟩ | ⟨⟨b1, -⟩, -⟩
    · rw [h2] at b3; exact b3
    · omega
set_option maxRecDepth 100000 in
set_option maxHeartbeats 1000000 in
theorem mt_findg {I : PIm} {z : Int} {tb : Int → Tm} (T : MTab I z tb) {i a b : Int} (i0 : 0 ≤ i) (i1 : i < z) (h : mrow I i 5 a b) : tb i = tg (tb a) (tb b) := by
  obtain ⟨u, v⟩ := T.2.1 i i0 i1
  obtain ⟨h1, h2, h3⟩ := h
  by_cases q : i < 4
  · obtain ⟨⟨q1, q2, q3⟩, -⟩ := u q; omega
  · rcases v (by omega) with ⟨⟨b1, -⟩, -⟩ | ⟨-, b2, b3, b4⟩
    · omega
    · rw [h2, h3] at b4; exact b4
set_option maxRecDepth 100000 in
set_option maxHeartbeats 1000000 in
theorem mt_add {I : PIm} {z : Nat} {tb : Int → Tm} (T : MTab I z tb) (hz : I 112 13 = z) {w a b : Int} {t : Tm} (hn : ∀ i : Int, 0 ≤ i → i < z → tb i ≠ t) (h : (w = 4 ∧ b = -9 ∧ (0 ≤ a ∧ a < z) ∧ t = tf (tb a)) ∨ (w = 5 ∧ (0 ≤ a ∧ a < z) ∧ (0 ≤ b ∧ b < z) ∧ t = tg (tb a) (tb b))) : MMade I (pw_up (pw_up (pw_up (pw_up I 122 z w) 123 z a) 124 z b) 112 13 (z + 1)) tb (fun j => if j = (z : Int) then t else tb j) t z := by
  have h4 := T.1
  have x13 : pw_up (pw_up (pw_up (pw_up I 122 z w) 123 z a) 124 z b) 112 13 ((z : Int) + 1) 112 13 = (z : Int) + 1 := pw_up_self _ _ _ _
  have y : ∀ q k, ¬ ((122 ≤ q ∧ q ≤ 124 ∧ k = (z : Int)) ∨ (q = 112 ∧ k = 13)) → pw_up (pw_up (pw_up (pw_up I 122 z w) 123 z a) 124 z b) 112 13 ((z : Int) + 1) q k = I q k := fun q k g => by
    rw [pw_up_other (by omega), pw_up_other (by omega), pw_up_other (by omega), pw_up_other (by omega)]
  have e1 : pw_up (pw_up (pw_up (pw_up I 122 z w) 123 z a) 124 z b) 112 13 ((z : Int) + 1) 122 z = w := by rw [pw_up_other (by omega), pw_up_other (by omega), pw_up_other (by omega), pw_up_self]
  have e2 : pw_up (pw_up (pw_up (pw_up I 122 z w) 123 z a) 124 z b) 112 13 ((z : Int) + 1) 123 z = a := by rw [pw_up_other (by omega), pw_up_other (by omega), pw_up_self]
  have e3 : pw_up (pw_up (pw_up (pw_up I 122 z w) 123 z a) 124 z b) 112 13 ((z : Int) + 1) 124 z = b := by rw [pw_up_other (by omega), pw_up_self]
  generalize pw_up (pw_up (pw_up (pw_up I 122 z w) 123 z a) 124 z b) 112 13 ((z : Int) + 1) = I' at *
  have T' : MTab I' z (fun j => if j = (z : Int) then t else tb j) := (T.cg (fun q g1 g2 k k0 k1 => y q k (by omega))).tb_cg (fun j j0 j1 => if_neg (by omega))
  refine ⟨⟨by omega, by omega⟩, if_pos rfl, ⟨by omega, fun i i0 i1 => ?_, fun i j i0 i1 j0 j1 e => ?_⟩, by omega, fun j hj => if_neg (by omega), fun j hj => ?_, fun q k g => y q k (by omega)⟩
  · by_cases q : i = (z : Int)
    · subst q
      refine ⟨fun q => by omega, fun q => ?_⟩
      unfold mrow
      rw [e1, e2, e3]
      dsimp only
      rw [if_pos rfl]
      rcases h with ⟨rfl, rfl, h3, h5⟩ | ⟨rfl, h3, h5, h6⟩
      · left; rw [if_neg (by omega)]; exact ⟨⟨rfl, rfl, rfl⟩, h3, h5⟩
      · right; rw [if_neg (by omega), if_neg (by omega)]; exact ⟨⟨rfl, rfl, rfl⟩, h3, h5, h6⟩
    · exact T'.2.1 i i0 (by omega)
  · dsimp only at e
    by_cases q : i = (z : Int)
    · by_cases q' : j = (z : Int)
      · omega
      · rw [if_pos q, if_neg q'] at e; exact absurd e.symm (hn j j0 (by omega))
    · by_cases q' : j = (z : Int)
      · rw [if_neg q, if_pos q'] at e; exact absurd e (hn i i0 (by omega))
      · rw [if_neg q, if_neg q'] at e; exact T.2.2 i j i0 (by omega) j0 (by omega) e
  · by_cases q : j = (z : Int)
    · right; exact if_pos q
    · left; omega
set_option maxRecDepth 100000 in
set_option maxHeartbeats 1000000 in
/-- a term of one part, made -/
theorem c_X11_nodeF (d : Nat) {I : PIm} {tb : Int → Tm} {a : Int} (M : MAt Γ R) (T : MTab I (I 112 13) tb) (hz : I 112 13 < 200) (ha : 0 ≤ a ∧ a < I 112 13) : PC sc mX11_node d 0 0 [.inr (some 112), .inl 4, .inl a, .inl (-9)] Γ I R (fun v Γ' I' R' => Γ' = Γ ∧ R' = R ∧ ∃ i tb', v = some (.inl i) ∧ MMade I I' tb tb' (tf (tb a)) i) := by
  have h4 := T.1
  obtain ⟨z, hzn⟩ : ∃ z : Nat, I 112 13 = z := ⟨(I 112 13).toNat, by omega⟩
  rw [hzn] at T hz ha
  refine (c_X11_node d M hzn (by omega) (by omega) (by omega) (by omega) (T.rg (by omega))).mono ?_
  rintro v Γ' I' R' ⟨rfl, rfl, i, rfl, ⟨i0, i1, i2, rfl⟩ | ⟨rfl, hno, rfl⟩⟩
  · exact ⟨rfl, rfl, i, tb, rfl, ⟨i0, by omega⟩, mt_find T i0 i1 ha.1 i2, by rw [hzn]; exact T, by omega, fun _ _ => rfl, fun j hj => Or.inl hj, fun _ _ _ => rfl⟩
  · refine ⟨rfl, rfl, z, _, rfl, mt_add T hzn (fun i i0 i1 e => ?_) (Or.inl ⟨rfl, rfl, ha, rfl⟩)⟩
    obtain ⟨u, v⟩ := T.2.1 i i0 i1
    by_cases q : i < 4
    · exact absurd ((u q).2.symm.trans e) tc_tf
    · rcases v (by omega) with ⟨⟨q1, q2, q3⟩, b2, b3⟩ | ⟨-, b2, b3, b4⟩
      · have := T.2.2 _ _ b2.1 (by omega) ha.1 ha.2 (tf_inj (b3.symm.trans e))
        exact hno i i0 i1 ⟨q1, this, q3⟩
      · exact absurd (e.symm.trans b4) tf_tg
set_option maxRecDepth 100000 in
set_option maxHeartbeats 1000000 in
theorem c_X11_nodeG (d : Nat) {I : PIm} {tb : Int → Tm} {a b : Int} (M : MAt Γ R) (T : MTab I (I 112 13) tb) (hz : I 112 13 < 200) (ha : 0 ≤ a ∧ a < I 112 13) (hb : 0 ≤ b ∧ b < I 112 13) : PC sc mX11_node d 0 0 [.inr (some 112), .inl 5, .inl a, .inl b] Γ I R (fun v Γ' I' R' => Γ' = Γ ∧ R' = R ∧ ∃ i tb', v = some (.inl i) ∧ MMade I I' tb tb' (tg (tb a) (tb b)) i) := by
  have h4 := T.1
  obtain ⟨z, hzn⟩ : ∃ z : Nat, I 112 13 = z := ⟨(I 112 13).toNat, by omega⟩
  rw [hzn] at T hz ha hb
  refine (c_X11_node d M hzn (by omega) (by omega) (by omega) (by omega) (T.rg (by omega))).mono ?_
  rintro v Γ' I' R' ⟨rfl, rfl, i, rfl, ⟨i0, i1, i2, rfl⟩ | ⟨rfl, hno, rfl⟩⟩
  · exact ⟨rfl, rfl, i, tb, rfl, ⟨i0, by omega⟩, mt_findg T i0 i1 i2, by rw [hzn]; exact T, by omega, fun _ _ => rfl, fun j hj => Or.inl hj, fun _ _ _ => rfl⟩
  · refine ⟨rfl, rfl, z, _, rfl, mt_add T hzn (fun i i0 i1 e => ?_) (Or.inr ⟨rfl, ha, hb, rfl⟩)⟩
    obtain ⟨u, v⟩ := T.2.1 i i0 i1
    by_cases q : i < 4
    · exact absurd ((u q).2.symm.trans e) tc_tg
    · rcases v (by omega) with ⟨-, b2, b3⟩ | ⟨⟨q1, q2, q3⟩, b2, b3, b4⟩
      · exact absurd (b3.symm.trans e) tf_tg
      · have w := tg_inj (b4.symm.trans e)
        exact hno i i0 i1 ⟨q1, T.2.2 _ _ b2.1 (by omega) ha.1 ha.2 w.1, T.2.2 _ _ b3.1 (by omega) hb.1 hb.2 w.2⟩
set_option maxRecDepth 100000 in
set_option maxHeartbeats 1000000 in
/-- a constant is there already -/
theorem c_X11_nodeC (d : Nat) {I : PIm} {tb : Int → Tm} {k : Int} (M : MAt Γ R) (T : MTab I (I 112 13) tb) (hz : I 112 13 < 200) (k0 : 0 ≤ k) (k1 : k < 4) : PC sc mX11_node d 0 0 [.inr (some 112), .inl k, .inl (-9), .inl (-9)] Γ I R (px (some (.inl k)) Γ I R) := by
  have h4 := T.1
  obtain ⟨z, hzn⟩ : ∃ z : Nat, I 112 13 = z := ⟨(I 112 13).toNat, by omega⟩
  rw [hzn] at T hz
  refine (c_X11_node d M hzn (by omega) (by omega) (by omega) (by omega) (T.rg (by omega))).mono ?_
  rintro v Γ' I' R' ⟨rfl, rfl, i, rfl, ⟨i0, i1, i2, rfl⟩ | ⟨rfl, hno, rfl⟩⟩
  · obtain ⟨u, v⟩ := T.2.1 i i0 i1
    obtain ⟨q1, q2, q3⟩ := i2
    have : i = k := by
      by_cases q : i < 4
      · obtain ⟨⟨w1, -⟩, -⟩ := u q; omega
      · rcases v (by omega) with ⟨⟨w1, -⟩, -⟩ | ⟨⟨w1, -⟩, -⟩ <;> omega
    rw [this]
    exact px_rfl
  · exact absurd ((T.2.1 k k0 (by omega)).1 k1).1 (hno k k0 (by omega))
end MRUN
